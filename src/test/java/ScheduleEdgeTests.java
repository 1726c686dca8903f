/** Edges that the document names for schedules (======== 4), and in promises 9 to 13. */
public final class ScheduleEdgeTests extends Check {
    private static final int[] FAR = {LEAST, -2, -1, 4, 5, GREATEST};

    public static void main(String[] args) {
        marksAndFailuresAreNone();
        ordersOfInputsStay();
        bitsOfB();
        switches();
        noRowsAndWatermarks();
        oneInputAlone();
        orderBySwitches();
        orderByBeginning();
        orderByLengths();
        equalZeros();
        equalOuts();
        plainRun();
        howMany();
        howManyOfAll();
        howManyOfWrongSwitches();
        schedulesOfEachCase();
        schedulePlaces();
        scheduleFull();
        scheduleRefused();
        equalRefused();
        equalOfAllEvents();
        equalOfNothing();
        failingPlaces();
        failingFull();
        failingNone();
        failingRefused();
        shuffleOfOneInput();
        shuffleWraps();
        shuffleRefused();
        end();
    }

    /** A case with so many events of each input, those of A first. */
    private static String events(int ofA, int ofB) {
        return "C" + "h1".repeat(ofA) + "H1".repeat(ofB) + ":=;";
    }

    private static int[] listed(JobTests x, int c, int s) {
        return all(x.schedules(c, s), k -> x.schedule(c, s, k));
    }

    private static void marksAndFailuresAreNone() {
        sentence("4 A SCHEDULE of a CASE has all its ROWS and WATERMARKS (no MARKS, no FAILURES)");
        JobTests x = with("J;Ckxra1 1kxRa1 1kxh1kxH1kx:=;Cra1 1Ra1 1h1H1:=;Ckx:=;");
        dueList("with marks and failures", listed(x, 0, 3), 12, 3, 6, 9, 10, 5);
        dueList("without", listed(x, 1, 3), 12, 3, 6, 9, 10, 5);
        dueList("of marks and failures alone", listed(x, 2, 3), 0);
        due("shuffle with", x.shuffle(0, 9), x.shuffle(1, 9));
        due("rows, and watermarks with them", x.equal(0, 5), 1);
        due("events that are marks", x.equal(0, 16), BAD);
    }

    private static void ordersOfInputsStay() {
        sentence("4 those of A in their order, those of B in theirs");
        // d lets only the first of each key on, so its time tells which one came first
        JobTests x = with("Jd;Cra1 1Ra1 2ra1 3Ra1 4:=;Cra1 3ra1 1Rb1 4Rb1 2:=;");
        dueList("A first: as the plain run", all(2, i -> x.equal(0, i == 0 ? 12 : 10)), 1, 1);
        dueList("B first: another time", all(2, i -> x.equal(0, i == 0 ? 3 : 5)), 0, 0);
        dueList("keys of their own: all equal", all(6, k -> x.equal(1, x.schedule(1, 3, k))), 1, 1, 1, 1, 1, 1);
    }

    private static void bitsOfB() {
        sentence("4 as BITS: bit i (from 0) is 1, if its event i is of B");
        dueList("A, then B", listed(with("J;Ch1H1:=;"), 0, 1), 2, 1);
        dueList("A A, then B", listed(with("J;Ch1h1H1:=;"), 0, 1), 4, 1);
        dueList("A, then B B", listed(with("J;Ch1H1H1:=;"), 0, 1), 6, 3);
        dueList("rows", listed(with("J;Cra1 1Ra1 1:=;"), 0, 1), 2, 1);
        due("B's event 23", with("J;" + events(23, 1)).schedule(0, 1, 0), 1 << 23);
        due("B's events but for 23", with("J;" + events(1, 23)).schedule(0, 1, 1), (1 << 23) - 1);
    }

    private static void switches() {
        sentence("4 SWITCHES: how many of its events are of the other input than the one before");
        JobTests x = with("J;" + events(2, 2) + events(1, 1) + events(1, 2) + events(3, 1));
        dueList("two and two", allSchedules(x, 0), 0, 2, 4, 6);
        dueList("one and one", allSchedules(x, 1), 0, 2, 2, 2);
        dueList("one and two", allSchedules(x, 2), 0, 2, 3, 3);
        dueList("three and one", allSchedules(x, 3), 0, 2, 4, 4);
    }

    private static void noRowsAndWatermarks() {
        sentence("4 (Without ROWS and WATERMARKS there is one, BITS 0, without SWITCHES.)");
        JobTests x = with("J;C:=;Ck:=;Cx:=;C" + "kx".repeat(12) + ":=;");
        for (int c = 0; c < 4; c++) {
            dueList("how many of case " + c, allSchedules(x, c), 1, 1, 1, 1);
            dueList("with 0 switches of case " + c, listed(x, c, 0), 0);
            due("none behind it", x.schedule(c, 0, 1), NONE);
            due("it is equal", x.equal(c, 0), 1);
            due("bits 1", x.equal(c, 1), BAD);
            due("none fails", x.failing(c, 3, 0), NONE);
            due("by luck", x.shuffle(c, 7), 0);
        }
    }

    private static void oneInputAlone() {
        sentence("4 SWITCHES (of one input alone: none)");
        JobTests x = with("J;Ch1:=;CH1:=;" + events(24, 0) + events(0, 24));
        for (int c = 0; c < 4; c++) {
            dueList("how many of case " + c, allSchedules(x, c), 1, 1, 1, 1);
            due("a second one", x.schedule(c, 3, 1), NONE);
        }
        dueList("bits", all(4, c -> x.schedule(c, 0, 0)), 0, 1, 0, (1 << 24) - 1);
        dueList("equal", all(4, c -> x.equal(c, x.schedule(c, 0, 0))), 1, 1, 1, 1);
    }

    private static void orderBySwitches() {
        sentence("4 In order: by SWITCHES");
        JobTests x = with("J;" + events(3, 2));
        dueList("0", listed(x, 0, 0));
        dueList("1", listed(x, 0, 1), 24, 3);
        dueList("2", listed(x, 0, 2), 24, 3, 6, 12, 17);
        dueList("3", listed(x, 0, 3), 24, 3, 6, 12, 17, 18, 20, 5, 9);
    }

    private static void orderByBeginning() {
        sentence("4 of as many those that begin with A first");
        dueList("one and one", listed(with("J;CH1h1:=;"), 0, 3), 2, 1);
        dueList("two and two", listed(with("J;CH1H1h1h1:=;"), 0, 3), 12, 3, 6, 9, 10, 5);
    }

    private static void orderByLengths() {
        sentence("4 then as the lengths of their runs are, the first run ahead of the others, the lesser length first");
        JobTests x = with("J;" + events(3, 3) + events(4, 1) + events(1, 4) + events(2, 3));
        // AAABBB BBBAAA, ABBBAA AABBBA BAAABB BBAAAB, ABAABB ABBAAB AABABB AABBAB, BABBAA BAABBA BBABAA BBAABA
        dueList("three and three", listed(x, 0, 3), 56, 7, 14, 28, 49, 35, 50, 38, 52, 44, 13, 25, 11, 19);
        dueList("four and one", listed(x, 1, 3), 16, 1, 2, 4, 8);
        dueList("one and four", listed(x, 2, 3), 30, 15, 29, 27, 23);
        // AABBB BBBAA, ABBBA BAABB BBAAB, ABABB ABBAB, BABBA BBABA
        dueList("two and three", listed(x, 3, 3), 28, 7, 14, 25, 19, 26, 22, 13, 11);
    }

    private static void equalZeros() {
        sentence("4 It is EQUAL, if it finds ZERO just when THE PLAIN run does");
        JobTests x = with("Jsq6;Cra1 1Ra-1 2Ra5 3:=;Cra5 1Ra1 2Ra-1 3:=;Cra1 1Ra-1 2:=;Cra1 1Ra1 1:=;");
        due("both find it", x.equal(0, 5), 1);
        due("the plain one alone", x.equal(0, 3), 0);
        due("the other one alone", x.equal(1, 3), 0);
        due("both find it, at other events", x.equal(2, 1), 1);
        due("none finds it", x.equal(3, 1), 1);
        // nothing comes of these, whether they find it or not
        JobTests nothing = with("Jsq6f=99;Cra1 1Ra-1 2Ra5 3:=;Cra5 1Ra1 2Ra-1 3:=;");
        due("the plain one alone, without outs", nothing.equal(0, 3), 0);
        due("both, without outs", nothing.equal(0, 5), 1);
        due("the other one alone, without outs", nothing.equal(1, 3), 0);
        due("none, without outs", nothing.equal(1, 6), 1);
    }

    private static void equalOuts() {
        sentence("4 It is EQUAL, if .. its OUTS are the same in any order");
        JobTests x = with("J;Cra1 1Rb2 2:=;Cra1 1Ra1 2:=;C" + "ra1 1Rb2 2".repeat(12) + ":=;");
        due("in another order", x.equal(0, 1), 1);
        due("in another order of times", x.equal(1, 1), 1);
        due("24 in another order", x.equal(2, 0xfff), 1);
        JobTests sums = with("Js;Cra1 1Ra1 1:=;Cra1 1Ra1 2:=;Cra1 1Rb2 1ra1 1:=;");
        due("the same rows", sums.equal(0, 1), 1);
        due("other times", sums.equal(1, 1), 0);
        due("other keys", sums.equal(2, 1), 1);
        JobTests late = with("Jw5;Cra1 1h9H9Rb1 1:=;");
        due("B's row comes ahead of W: one more out", late.equal(0, 3), 0);
        due("B's row comes behind it: as many", late.equal(0, 12), 1);
        JobTests side = with("Jw5;Ch9H9Ra1 1Ra1 2:=;");
        due("both rows are late", side.equal(0, 14), 1);
        due("one of them is", side.equal(0, 11), 0);
        due("none of them is", side.equal(0, 7), 0);
        due("a row that is late there alone", with("Jw5;Ch9ra1 1H9:=;").equal(0, 1), 0);
        due("a row that is late here alone", with("Jw5;CH9h9ra1 1:=;").equal(0, 4), 0);
        due("told outs are not looked at", with("J;Cra1 1Rb2 2:a7 7=;").equal(0, 2), 1);
    }

    private static void plainRun() {
        sentence("4 THE PLAIN run .. (that of ROWS and WATERMARKS as they stand in the CASE)");
        // the case itself gives something out at its mark, the plain run does not
        due("a mark ahead of ZERO", with("Jq6;Cra1 1kRa0 2:=;").equal(0, 2), 1);
        due("and the other way round", with("Jq6;Cra1 1kRa0 2:=;").equal(0, 1), 1);
        JobTests x = with("Js;Cra1 1Ra2 2ra4 3Ra8 4:=;CRa8 4ra1 1ra4 3Ra2 2:=;");
        dueList("as they stand: ABAB", all(6, k -> x.equal(0, x.schedule(0, 3, k))), 0, 0, 0, 0, 1, 0);
        dueList("as they stand: BAAB", all(6, k -> x.equal(1, x.schedule(1, 3, k))), 0, 0, 0, 1, 0, 0);
    }

    private static void howMany() {
        sentence("9 How many SCHEDULES of a CASE have at most s (0 .. 3) SWITCHES");
        JobTests x = with("J;" + events(12, 12) + events(23, 1) + events(1, 23) + events(2, 22));
        dueList("twelve and twelve", allSchedules(x, 0), 0, 2, 24, 266);
        dueList("23 and one", allSchedules(x, 1), 0, 2, 24, 24);
        dueList("one and 23", allSchedules(x, 2), 0, 2, 24, 24);
        dueList("two and 22", allSchedules(x, 3), 0, 2, 24, 66);
    }

    private static void howManyOfAll() {
        sentence("9 How many SCHEDULES of a CASE .. (of as many events of A and B as can be)");
        for (int ofA = 1; ofA < 24; ofA++) {
            for (int ofB = 1; ofA + ofB <= 24; ofB++) {
                int two = 2 + (ofA - 1) + (ofB - 1);
                int three = two + 2 * (ofA - 1) * (ofB - 1);
                JobTests x = with("J;" + events(ofA, ofB));
                dueList(ofA + " and " + ofB, allSchedules(x, 0), 0, 2, two, three);
                due("the last", Integer.bitCount(x.schedule(0, 3, three - 1)), ofB);
                due("none behind it", x.schedule(0, 3, three), NONE);
            }
        }
    }

    private static void howManyOfWrongSwitches() {
        sentence("9 s (0 .. 3) .. BAD");
        JobTests x = with("J;C:=;Ch1H1:=;");
        for (int s : FAR) {
            due("schedules with at most " + s, x.schedules(0, s), BAD);
            due("schedules with at most " + s + " of no case", x.schedules(2, s), BAD);
        }
        for (int s = 0; s < 4; s++) {
            int most = s;
            dueBadCase("schedules", 2, c -> x.schedules(c, most));
        }
    }

    private static void schedulesOfEachCase() {
        sentence("9, 10 SCHEDULES of a CASE (of each by itself)");
        JobTests x = with("J;" + events(2, 2) + events(3, 2) + events(2, 3) + events(3, 3) + events(2, 0) + "C:=;");
        int[] howMany = {6, 9, 9, 14, 1, 1};
        int[] last = {5, 9, 11, 19, 0, 0};
        for (int c = 0; c < 6; c++) {
            for (int d = 0; d < 6; d++) {
                dueList("cases " + c + " and " + d, new int[] {x.schedules(c, 3), x.schedules(d, 3)}, howMany[c],
                    howMany[d]);
                dueList("the last of " + c + " and " + d, new int[] {x.schedule(c, 3, howMany[c] - 1),
                    x.schedule(d, 3, howMany[d] - 1)}, last[c], last[d]);
            }
        }
    }

    private static void schedulePlaces() {
        sentence("10 BITS of the k-th of these (0 the first). NONE: not so many, or k below 0");
        JobTests x = with("J;" + events(2, 2) + events(1, 0));
        dueList("the last of each", all(4, s -> x.schedule(0, s, Math.max(0, x.schedules(0, s) - 1))), NONE, 3, 9, 5);
        dueList("behind the last of each", all(4, s -> x.schedule(0, s, x.schedules(0, s))), NONE, NONE, NONE, NONE);
        for (int k : new int[] {LEAST, -2, -1, 6, 7, 266, GREATEST}) {
            due("place " + k, x.schedule(0, 3, k), NONE);
            due("place " + k + " of one", x.schedule(1, 0, k), NONE);
        }
        due("the one", x.schedule(1, 0, 0), 0);
    }

    private static void scheduleFull() {
        sentence("10 BITS of the k-th of these (of 266)");
        JobTests x = with("J;" + events(12, 12));
        due("A, then B", x.schedule(0, 3, 0), 0xfff000);
        due("B, then A", x.schedule(0, 3, 1), 0xfff);
        due("the first with two switches", x.schedule(0, 3, 2), 0xfff << 1);
        due("the last of A with two", x.schedule(0, 3, 12), 0xfff << 11);
        due("the first of B with two", x.schedule(0, 3, 13), 1 | 0x7ff << 13);
        due("the last with two", x.schedule(0, 3, 23), 0x7ff | 1 << 23);
        due("the first with three", x.schedule(0, 3, 24), 1 << 1 | 0x7ff << 13);
        due("the last of A with three", x.schedule(0, 3, 144), 0x7ff << 11 | 1 << 23);
        due("the first of B with three", x.schedule(0, 3, 145), 1 | 0x7ff << 2);
        due("the last with three", x.schedule(0, 3, 265), 0x7ff | 1 << 22);
        due("none behind it", x.schedule(0, 3, 266), NONE);
    }

    private static void scheduleRefused() {
        sentence("10 BAD; NONE");
        JobTests x = with("J;C:=;Ch1H1:=;");
        for (int s : FAR) {
            due("with at most " + s, x.schedule(1, s, 0), BAD);
            due("with at most " + s + ", place -1", x.schedule(1, s, -1), BAD);
            due("with at most " + s + ", place 9", x.schedule(1, s, 9), BAD);
        }
        dueBadCase("schedule", 2, c -> x.schedule(c, 0, 0));
        dueBadCase("schedule at place -1", 2, c -> x.schedule(c, 3, -1));
        dueBadCase("schedule at place 9", 2, c -> x.schedule(c, 3, 9));
    }

    private static void equalRefused() {
        sentence("11 BAD: also BITS that are none of the CASE");
        JobTests x = with("J;Ch1H1H1:=;Ch1h1:=;CH1H1:=;");
        dueList("below 0", all(3, i -> x.equal(0, new int[] {-1, LEAST, LEAST + 6}[i])), BAD, BAD, BAD);
        dueList("bits of events that are not there", all(4, i -> x.equal(0, new int[] {10, 12, 1 << 30 | 2, 9}[i])),
            BAD, BAD, BAD, BAD);
        dueList("not as many as B has", all(5, i -> x.equal(0, new int[] {0, 1, 2, 4, 7}[i])), BAD, BAD, BAD, BAD, BAD);
        dueList("as many", all(3, i -> x.equal(0, new int[] {3, 5, 6}[i])), 1, 1, 1);
        dueList("A alone", all(4, bits -> x.equal(1, bits)), 1, BAD, BAD, BAD);
        due("A alone, an event that is not there", x.equal(1, 4), BAD);
        dueList("B alone", all(4, bits -> x.equal(2, bits)), BAD, BAD, BAD, 1);
        due("B alone, one more", x.equal(2, 7), BAD);
        due("the greatest int", x.equal(0, GREATEST), BAD);
        dueBadCase("equal", 3, c -> x.equal(c, 0));
        dueBadCase("equal of bits 3", 3, c -> x.equal(c, 3));
    }

    private static void equalOfAllEvents() {
        sentence("11 Whether a SCHEDULE by BITS is EQUAL (of 24 events)");
        JobTests x = with("J;" + events(12, 12) + events(24, 0) + events(0, 24) + events(23, 1));
        dueList("twelve and twelve", all(4, i -> x.equal(0, new int[] {0xfff000, 0xfff, 0xaaaaaa, 0x555555}[i])),
            1, 1, 1, 1);
        due("bit 24 is not there", x.equal(0, 0xfff << 13), BAD);
        due("eleven of B", x.equal(0, 0x7ff), BAD);
        due("thirteen of B", x.equal(0, 0x1fff), BAD);
        due("A alone", x.equal(1, 0), 1);
        due("A alone, bit 24", x.equal(1, 1 << 24), BAD);
        due("B alone", x.equal(2, 0xffffff), 1);
        due("B alone, bit 24 for bit 0", x.equal(2, 0x1fffffe), BAD);
        due("the last event of B", x.equal(3, 1 << 23), 1);
        due("the event behind it", x.equal(3, 1 << 24), BAD);
    }

    private static void equalOfNothing() {
        sentence("11 (1, 0)");
        JobTests x = with("Js;C:=;Cra1 1Ra1 2:=;");
        dueList("nothing", all(2, bits -> x.equal(0, bits)), 1, BAD);
        due("nothing, below 0", x.equal(0, -1), BAD);
        dueList("two rows", all(4, bits -> x.equal(1, bits)), BAD, 0, 1, BAD);
        dueList("the same again", all(4, bits -> x.equal(1, bits)), BAD, 0, 1, BAD);
    }

    private static void failingPlaces() {
        sentence("12 The k-th of the SCHEDULES with at most s SWITCHES that is not EQUAL (0 the first), by its place");
        JobTests x = with("Js;Cra1 1Ra2 2ra4 3Ra8 4:=;");
        dueList("at most 3", all(6, k -> x.failing(0, 3, k)), 0, 1, 2, 3, 5, NONE);
        dueList("at most 2", all(6, k -> x.failing(0, 2, k)), 0, 1, 2, 3, NONE, NONE);
        dueList("at most 1", all(3, k -> x.failing(0, 1, k)), 0, 1, NONE);
        dueList("at most 0", all(2, k -> x.failing(0, 0, k)), NONE, NONE);
        JobTests y = with("Js;Cra1 1Ra2 2ra4 3Ra8 4:=;");
        due("the last one, asked for first", y.failing(0, 3, 4), 5);
        due("then of fewer switches", y.failing(0, 2, 4), NONE);
        due("then the first one", y.failing(0, 1, 0), 0);
        due("then one that is not there", y.failing(0, 3, 5), NONE);
        JobTests z = with("Js;Cra1 1Ra2 2:=;CRa1 1ra2 2:=;");
        dueList("each case by itself", new int[] {z.failing(0, 1, 0), z.failing(1, 1, 0), z.failing(0, 1, 0)}, 1, 0, 1);
    }

    private static void failingFull() {
        sentence("12 The k-th of the SCHEDULES .. that is not EQUAL (of 266)");
        JobTests x = with("Js;C" + "ra1 1Ra1 2".repeat(12) + ":=;");
        due("the first", x.failing(0, 3, 0), 0);
        due("the last", x.failing(0, 3, 265), 265);
        due("none behind it", x.failing(0, 3, 266), NONE);
        due("the last with two switches", x.failing(0, 2, 23), 23);
        due("none behind it", x.failing(0, 2, 24), NONE);
        JobTests equal = with("J;C" + "ra1 1Rb1 2".repeat(12) + ":=;");
        due("all of 266 are equal", equal.failing(0, 3, 0), NONE);
        JobTests one = with("Js;C" + "ra1 1".repeat(12) + "Ra1 2".repeat(12) + ":=;");
        dueList("but for the first of 266", new int[] {one.failing(0, 3, 0), one.failing(0, 3, 264),
            one.failing(0, 3, 265)}, 1, 265, NONE);
    }

    private static void failingNone() {
        sentence("12 NONE: not so many, or k below 0");
        JobTests x = with("Js;Cra1 1Ra2 2:=;C:=;Cra1 1:=;");
        for (int k : new int[] {LEAST, -2, -1, 1, 2, 266, GREATEST}) {
            due("place " + k, x.failing(0, 3, k), NONE);
            due("place " + k + " of nothing", x.failing(1, 3, k), NONE);
            due("place " + k + " of A alone", x.failing(2, 0, k), NONE);
        }
        due("place 0", x.failing(0, 3, 0), 1);
        due("place 0 of nothing", x.failing(1, 3, 0), NONE);
        due("place 0 of A alone", x.failing(2, 0, 0), NONE);
    }

    private static void failingRefused() {
        sentence("12 BAD; NONE");
        JobTests x = with("Js;Cra1 1Ra2 2:=;C:=;");
        for (int s : FAR) {
            due("with at most " + s, x.failing(0, s, 0), BAD);
            due("with at most " + s + ", place -1", x.failing(0, s, -1), BAD);
            due("with at most " + s + ", place 9", x.failing(0, s, 9), BAD);
        }
        dueBadCase("failing", 2, c -> x.failing(c, 3, 0));
        dueBadCase("failing at place -1", 2, c -> x.failing(c, 0, -1));
        due("as if nothing had been asked", x.failing(0, 3, 0), 1);
    }

    private static void shuffleOfOneInput() {
        sentence("13 each time both inputs have events left x becomes ..");
        JobTests x = with("J;C:=;" + events(24, 0) + events(0, 24) + events(1, 1) + events(2, 1) + events(1, 2));
        for (int seed : new int[] {LEAST, -1, 0, 1, 7, GREATEST}) {
            dueList("without both, seed " + seed, all(3, c -> x.shuffle(c, seed)), 0, 0, 0xffffff);
        }
        dueList("seed 0: A first", all(3, i -> x.shuffle(3 + i, 0)), 2, 4, 6);
        dueList("seed -1: B first", all(3, i -> x.shuffle(3 + i, -1)), 1, 1, 3);
    }

    private static void shuffleWraps() {
        sentence("13 x becomes x * 1103515245 + 12345 (wrapping), and it is one of B, if bit 16 of it is 1");
        JobTests x = with("J;" + events(12, 12) + events(23, 1) + events(1, 23));
        int[] seeds = {0, 1, -1, GREATEST, LEAST, 65536};
        dueList("twelve and twelve", all(6, i -> x.shuffle(0, seeds[i])), 7001320, 511164, 1924243, 1924243, 7001320,
            9775895);
        dueList("23 and one", all(6, i -> x.shuffle(1, seeds[i])), 8, 4, 1, 1, 8, 1);
        dueList("one and 23", all(6, i -> x.shuffle(2, seeds[i])), 16777214, 16777214, 16777211, 16777211, 16777214,
            16777207);
        dueList("the same seed again", all(2, i -> x.shuffle(0, 1)), 511164, 511164);
    }

    private static void shuffleRefused() {
        sentence("13 BAD");
        JobTests x = with("J;C:=;Ch1H1:=;");
        dueBadCase("shuffle", 2, c -> x.shuffle(c, 0));
        dueBadCase("shuffle of seed -1", 2, c -> x.shuffle(c, -1));
    }
}
