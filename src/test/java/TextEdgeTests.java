import java.util.List;
import java.util.function.IntSupplier;

/** Edges that the document names for THE TEXT and its grammar (======== 1), and in promises 1 to 4, 19 and 20. */
public final class TextEdgeTests extends Check {
    /** Two cases with every kind of step but t, and every kind of event: a piece for each sign or number. */
    private static final List<String> PIECES = List.of("J", "f", "<", "-12", "m", "-", "-3", "q", "-4", "d", "s",
        "w", "120", ";", "C", "r", "a", "-1", "6", "R", "b", "234", "5", "h", "100", "H", "7", "k", "x", ":", "c",
        "-789", "8", "d", "9", "0", "~", ";", "C", ":", "!", ";");

    public static void main(String[] args) {
        newObject();
        leastAndGreatestSign();
        mostSigns();
        howManySignsAtOnce();
        lowestByteFirst();
        callsOfAnObject();
        blanksAheadOfEachPiece();
        blanksAtTheEnd();
        blanksWithinAPiece();
        manyBlanks();
        howManySteps();
        howManyTimerSteps();
        howManyCases();
        howManyEvents();
        howManyOuts();
        signsOfActs();
        signsOfSteps();
        signsOfEvents();
        signsOfEnds();
        keys();
        ints();
        naturals();
        times();
        fourthDigits();
        endsTooEarly();
        signsThatCannotStand();
        tooMuchDigits();
        naturalZero();
        textIsEmptyThen();
        jobAndCasesStay();
        nothingOfAnEarlierText();
        sameQuestionOfTheNextText();
        counts();
        events();
        lastEvent();
        steps();
        lastStep();
        end();
    }

    private static String text() {
        return String.join("", spaced());
    }

    /** The pieces with a blank where two numbers would run into one. */
    private static List<String> spaced() {
        return PIECES.stream().map(piece -> Character.isDigit(piece.charAt(piece.length() - 1)) ? piece + " " : piece)
            .toList();
    }

    /** All that a text tells of a job and its cases. */
    private static String told(JobTests x) {
        StringBuilder all = new StringBuilder();
        for (int k = 0; k < x.count(0); k++) {
            for (int number : allOfStep(x, k)) {
                all.append(number).append(' ');
            }
        }
        for (int c = 0; c < x.count(1); c++) {
            for (int i = 0; x.event(c, i, 0) != BAD; i++) {
                for (int number : allOfEvent(x, c, i)) {
                    all.append(number).append(' ');
                }
            }
            all.append("verdict ").append(x.run(c)).append(" difference ").append(x.difference(c)).append("; ");
        }
        return all.toString();
    }

    private static void newObject() {
        sentence("1 No TEXT; a JOB without STEPS, no CASES");
        dueList("count", all(4, new JobTests()::count), 0, 0, 0, 0);
        due("parse", new JobTests().parse(), -10);
        due("the first sign", new JobTests().type('J', 1), 1);
        due("step", new JobTests().step(0, 0), BAD);
        due("cover", new JobTests().cover(0, 0), BAD);
        due("mutant", new JobTests().mutant(0, 0), BAD);
        due("run", new JobTests().run(0), BAD);
        due("ran", new JobTests().ran(0, 0), BAD);
        due("out", new JobTests().out(0, 0, 0), BAD);
        due("difference", new JobTests().difference(0), BAD);
        due("schedules", new JobTests().schedules(0, 0), BAD);
        due("schedule", new JobTests().schedule(0, 0, 0), BAD);
        due("equal", new JobTests().equal(0, 0), BAD);
        due("failing", new JobTests().failing(0, 0, 0), BAD);
        due("shuffle", new JobTests().shuffle(0, 0), BAD);
        due("shrink", new JobTests().shrink(0), BAD);
        due("left", new JobTests().left(0, 0), BAD);
        due("alone", new JobTests().alone(0), BAD);
        due("event", new JobTests().event(0, 0, 0), BAD);
    }

    private static void leastAndGreatestSign() {
        sentence("THE TEXT has signs 32 .. 126; type BAD: one is no sign");
        for (int sign = 0; sign < 256; sign++) {
            boolean good = sign >= 32 && sign <= 126;
            due("type of sign " + sign, new JobTests().type(sign, 1), good ? 1 : BAD);
            long eight = (long) sign << 56 | 0x41414141414141L;
            due("type of sign " + sign + " as the eighth", new JobTests().type(eight, 8), good ? 8 : BAD);
        }
        for (int place = 0; place < 8; place++) {
            long hole = 0x4141414141414141L & ~(0xffL << (8 * place));
            JobTests x = new JobTests();
            due("sign 31 at " + place, x.type(hole | 31L << (8 * place), 8), BAD);
            due("sign 127 at " + place, x.type(hole | 127L << (8 * place), 8), BAD);
            due("nothing was typed", x.count(2), 0);
            due("only signs ahead of it are wanted", x.type(hole, place), place == 0 ? BAD : place);
        }
    }

    private static JobTests withBlanks(int n) {
        JobTests x = new JobTests();
        typeText(x, " ".repeat(n));
        return x;
    }

    private static void mostSigns() {
        sentence("500 at most; type NO: it would have more than 500");
        for (int n = 1; n <= 8; n++) {
            JobTests x = withBlanks(500 - n);
            long blanks = signsOf(" ".repeat(n));
            due(n + " more, the last that fit", x.type(blanks, n), 500);
            JobTests full = withBlanks(501 - n);
            due(n + " more, one too many", full.type(blanks, n), NO);
            due("none of them was typed", full.count(2), 501 - n);
        }
        JobTests x = withBlanks(499);
        due("eight more than 499", x.type(signsOf("J;C:=;  "), 8), NO);
        due("one more than 499", x.type('J', 1), 500);
        due("no sign", x.type(31, 1), BAD);
        due("what was refused does not stand in the text", x.parse(), -510);
        due("as many again", withBlanks(500).type(' ', 1), NO);
    }

    private static void howManySignsAtOnce() {
        sentence("2 n signs (1 .. 8); BAD: n");
        for (int n : new int[] {LEAST, -8, -1, 0, 9, 10, 16, 64, GREATEST}) {
            JobTests x = new JobTests();
            due("type of " + n + " signs", x.type(0x4141414141414141L, n), BAD);
            due("nothing was typed", x.count(2), 0);
            due("type of " + n + " signs in a full text", withBlanks(500).type(0x4141414141414141L, n), BAD);
        }
        int sum = 0;
        JobTests x = new JobTests();
        for (int n = 1; n <= 8; n++) {
            sum += n;
            due("type of " + n + " signs: how many there are", x.type(0x4141414141414141L, n), sum);
        }
    }

    private static void lowestByteFirst() {
        sentence("2 more of THE TEXT, the lowest byte first");
        JobTests x = new JobTests();
        due("eight", x.type(signsOf("Jf<1m+2q"), 8), 8);
        due("two", x.type(signsOf("3;"), 2), 10);
        due("parse", x.parse(), 0);
        dueList("the first step", allOfStep(x, 0), 'f', 1, '<');
        dueList("the second step", allOfStep(x, 1), 'm', 2, '+');
        dueList("the third step", allOfStep(x, 2), 'q', 3, 0);
        JobTests above = new JobTests();
        due("what stands above n signs is none", above.type(-1L << 8 | 'J', 1), 1);
        due("nor is a wrong byte", above.type(';', 1), 2);
        due("parse", above.parse(), 0);
    }

    private static void callsOfAnObject() {
        sentence("An object is used for at most 512 calls");
        JobTests x = new JobTests();
        String text = "J s ; C r a 1 1 : a 1 1 = ;" + " ".repeat(473);
        for (int i = 0; i < 500; i++) {
            due("call " + (i + 1), x.type(text.charAt(i), 1), i + 1);
        }
        due("call 501", x.type(' ', 1), NO);
        due("call 502", x.parse(), 1);
        for (int call = 503; call < 512; call++) {
            due("call " + call, x.run(0), 1);
        }
        due("call 512", x.out(0, 0, 1), 1);
    }

    private static void blanksAheadOfEachPiece() {
        sentence("blanks may stand ahead of each sign and number");
        String want = told(with(text()));
        List<String> pieces = spaced();
        for (int i = 0; i < pieces.size(); i++) {
            String ahead = String.join("", pieces.subList(0, i));
            String from = String.join("", pieces.subList(i, pieces.size()));
            dueText("a blank ahead of piece " + i, told(with(ahead + " " + from)), want);
            dueText("blanks ahead of piece " + i, told(with(ahead + "     " + from)), want);
        }
        dueText("a blank ahead of each", told(with(" " + String.join(" ", PIECES))), want);
    }

    private static void blanksAtTheEnd() {
        sentence("blanks may stand .. at the end");
        dueParse("J;" + " ".repeat(498), 0);
        dueParse("J;C:=; ", 1);
        dueParse("J;C:=;" + " ".repeat(494), 1);
        dueNoParse("J;C:=; ^.");
    }

    private static void blanksWithinAPiece() {
        sentence("blanks may stand .. not within one");
        dueNoParse("Jf<-^ 1;");
        dueNoParse("Jm--^ 1;");
        dueNoParse("Jq -^   1;");
        dueNoParse("J;Cra-^ 1 1:=;");
        dueNoParse("J;C:a-^ 1 1=;");
        dueNoParse("Jf<1 ^2;");
        dueNoParse("Jw1 ^2;");
        dueNoParse("J;Ch1 ^2:=;");
        dueList("of 1 2 3 blanks make three numbers, so it is a row and no more",
            allOfEvent(with("J;Cra1 2:=;"), 0, 0), 'r', 0, 1, 2);
        dueNoParse("J;Cra1 2 ^3:=;");
    }

    private static void manyBlanks() {
        sentence("500 at most .. blanks may stand ahead of each sign");
        dueParse(" ".repeat(498) + "J;", 0);
        dueParse("J" + " ".repeat(498) + ";", 0);
        dueNoParse(" ".repeat(499) + "J^");
        dueNoParse(" ".repeat(500) + "^");
        dueNoParse(" ".repeat(499) + "^;");
    }

    private static void howManySteps() {
        sentence("J {0..6 STEP} ;");
        dueParse("J;", 0);
        due("no steps", with("J;").count(0), 0);
        due("one step", with("Jd;").count(0), 1);
        due("six steps", with("Jdsdsds;").count(0), 6);
        for (String step : new String[] {"f<1", "m+1", "q1", "d", "s", "w1", "t1"}) {
            dueNoParse("Jdsdsds^" + step + ";");
            dueNoParse("Jdsdsds  ^" + step + ";");
        }
        dueNoParse("Jdsdsds^");
        due("six long steps", with("Jf<-100f=-100f>-100m*-100m/-100q-100;").count(0), 6);
        dueNoParse("Jf<-100f=-100f>-100m*-100m/-100q-100^0;");
    }

    private static void howManyTimerSteps() {
        sentence("t NAT (two t at most)");
        due("no t", with("Jw1w2w3w4w5w6;").count(0), 6);
        due("one t", with("Jt1;").count(0), 1);
        due("two t", with("Jt1t2;").count(0), 2);
        due("two t, the first and the last", with("Jt1ddddt2;").count(0), 6);
        dueNoParse("Jt1t2^t3;");
        dueNoParse("Jt1dt2dd^t3;");
        dueNoParse("Jt1dddt2^t3;");
        dueNoParse("Jt1t2 ^t0;");
        JobTests x = with("Jt1t2;");
        due("two t of the next text", parsed(x, "Jt3t4;"), 0);
    }

    private static void howManyCases() {
        sentence("; {0..8 CASE}");
        for (int n = 0; n <= 8; n++) {
            dueParse("J;" + "C:=;".repeat(n), n);
        }
        dueNoParse("J;" + "C:=;".repeat(8) + "^C:=;");
        dueNoParse("J;" + "C:=;".repeat(8) + "  ^C");
        JobTests x = with("J;" + "C:=;".repeat(7) + "Cra1 1:=;");
        due("the last case", x.run(7), 0);
        due("no ninth case", x.run(8), BAD);
        due("eight cases of the next text", parsed(x, "J;" + "C:=;".repeat(8)), 8);
        due("none of the next text", parsed(x, "J;"), 0);
    }

    private static void howManyEvents() {
        sentence("C {0..24 EVENT} :");
        dueParse("J;C:=;", 1);
        String[] signs = {"k", "x", "h1", "H1", "ra1 1", "Ra1 1"};
        for (String sign : signs) {
            JobTests x = with("J;C" + sign.repeat(24) + ":=;");
            due("the last event " + sign, x.event(0, 23, 0), sign.charAt(0));
            due("no event behind the last", x.event(0, 24, 0), BAD);
            dueNoParse("J;C" + "k".repeat(24) + "^" + sign + ":=;");
            dueNoParse("J;C" + sign.repeat(24) + " ^" + sign + ":=;");
        }
        dueNoParse("J;C" + "k".repeat(24) + "^");
        dueParse("J;C" + "k".repeat(24) + ":=;C" + "x".repeat(24) + ":=;", 2);
    }

    private static void howManyOuts() {
        sentence(": {0..16 OUT}");
        dueParse("J;C:=;", 1);
        dueParse("J;C:" + "a1 1".repeat(16) + "=;", 1);
        dueNoParse("J;C:" + "a1 1".repeat(16) + "^a1 1=;");
        dueNoParse("J;C:" + "a1 1".repeat(16) + " ^d1 1=;");
        dueNoParse("J;C:" + "a1 1".repeat(16) + "^");
        due("sixteen that come", with("J;C" + "ra1 1".repeat(16) + ":" + "a1 1".repeat(16) + "=;").run(0), 1);
        JobTests x = with("J;C" + "ra1 1".repeat(17) + ":" + "a1 1".repeat(16) + "=;");
        due("seventeen that come", x.run(0), 0);
        due("the seventeenth is not told", x.difference(0), 16);
        JobTests last = with("J;C" + "ra1 1".repeat(16) + ":" + "a1 1".repeat(15) + "a1 2=;");
        due("the last told one is looked at", last.difference(0), 15);
    }

    private static void signsOfActs() {
        sentence("f ( < | = | > ) INT | m ( + | - | * | / ) INT");
        for (char sign = 32; sign <= 126; sign++) {
            if (sign != ' ') {
                dueParse("Jf" + sign + "1;", "<=>".indexOf(sign) >= 0 ? 0 : -12);
                dueParse("Jm" + sign + "1;", "+-*/".indexOf(sign) >= 0 ? 0 : -12);
            }
        }
        dueNoParse("Jf^");
        dueNoParse("Jm  ^");
    }

    private static void signsOfSteps() {
        sentence("STEP = f .. | m .. | q INT | d | s | w NAT | t NAT");
        for (char sign = 33; sign <= 126; sign++) {
            dueParse("J" + sign + "?", "fmqdswt;".indexOf(sign) >= 0 ? -12 : -11);
        }
        dueNoParse("Jd^1;");
        dueNoParse("Js^-1;");
        dueNoParse("Jq^d;");
        dueNoParse("Jq^<1;");
        dueNoParse("Jw^d;");
        dueNoParse("Jt^<1;");
    }

    private static void signsOfEvents() {
        sentence("EVENT = r .. | R .. | h TIME | H TIME | k | x");
        for (char sign = 33; sign <= 126; sign++) {
            dueParse("J;C" + sign + "?", "rRhHkx:".indexOf(sign) >= 0 ? -14 : -13);
        }
        dueNoParse("J;Ck^1:=;");
        dueNoParse("J;Cx^a:=;");
        dueNoParse("J;Ch^a1:=;");
        dueNoParse("J;CH^a1:=;");
        dueNoParse("J;Cr^1:=;");
        dueNoParse("J;CR^1:=;");
    }

    private static void signsOfEnds() {
        sentence("( = | ~ | ! ) ;");
        for (char sign = 33; sign <= 126; sign++) {
            dueParse("J;C:" + sign + ";", "=~!".indexOf(sign) >= 0 ? 1 : "abcd".indexOf(sign) >= 0 ? -15 : -14);
        }
        dueNoParse("J;C:^");
        dueNoParse("J;C:=^");
        dueNoParse("J;C:=^=;");
        dueNoParse("J;C^;");
    }

    private static void keys() {
        sentence("KEY is one of a b c d");
        for (char sign = 33; sign <= 126; sign++) {
            boolean good = sign >= 'a' && sign <= 'd';
            dueParse("J;Cr" + sign + "1 1:=;", good ? 1 : -14);
            dueParse("J;CR" + sign + "1 1:=;", good ? 1 : -14);
            if ("=~!".indexOf(sign) < 0) {
                dueParse("J;C:" + sign + "1 1=;", good ? 1 : -14);
            }
        }
    }

    private static void ints() {
        sentence("INT perhaps - and 1 to 3 digits");
        int[] values = {0, 1, 9, 10, 99, 100, 999, -1, -9, -10, -99, -100, -999};
        for (int value : values) {
            due("f<" + value, with("Jf<" + value + ";").step(0, 1), value);
            due("m-" + value, with("Jm-" + value + ";").step(0, 1), value);
            due("q" + value, with("Jq" + value + ";").step(0, 1), value);
            due("r of " + value, with("J;Cra" + value + " 1:=;").event(0, 0, 2), value);
            due("R of " + value, with("J;CRa" + value + " 1:=;").event(0, 0, 2), value);
            due("told " + value, with("J;Cra" + value + " 1:a" + value + " 1=;").run(0), 1);
        }
        due("-0", with("Jq-0;").step(0, 1), 0);
        due("-000", with("Jq-000;").step(0, 1), 0);
        due("007", with("Jq007;").step(0, 1), 7);
        due("-007", with("Jq-007;").step(0, 1), -7);
        dueNoParse("Jq^;");
        dueNoParse("Jq-^;");
        dueNoParse("Jq-^");
        dueNoParse("Jq-^-1;");
        dueNoParse("Jq^+1;");
        dueNoParse("Jq1^-;");
        dueNoParse("J;Cra^:=;");
        dueNoParse("J;C:a^=;");
        dueNoParse("J;C:a-^=;");
    }

    private static void naturals() {
        sentence("NAT 1 to 3 digits, not 0");
        for (String sign : new String[] {"w", "t"}) {
            for (String number : new String[] {"1", "9", "01", "10", "001", "099", "100", "999"}) {
                due(sign + number, with("J" + sign + number + ";").step(0, 1), Integer.parseInt(number));
            }
            dueNoParse("J" + sign + "^;");
            dueNoParse("J" + sign + "^-1;");
            dueNoParse("J" + sign + "^-0;");
            dueNoParse("J" + sign + "0^;");
            dueNoParse("J" + sign + "00^;");
            dueNoParse("J" + sign + "000^;");
            dueNoParse("J" + sign + "999^9;");
            dueNoParse("J" + sign + "^");
        }
    }

    private static void times() {
        sentence("TIME 1 to 3 digits");
        for (String number : new String[] {"0", "00", "000", "1", "9", "01", "10", "099", "100", "999"}) {
            int time = Integer.parseInt(number);
            due("h" + number, with("J;Ch" + number + ":=;").event(0, 0, 3), time);
            due("H" + number, with("J;CH" + number + ":=;").event(0, 0, 3), time);
            due("r at " + number, with("J;Cra1 " + number + ":=;").event(0, 0, 3), time);
            due("R at " + number, with("J;CRa1 " + number + ":=;").event(0, 0, 3), time);
            due("told at " + number, with("J;Cra1 " + number + ":a1 " + number + "=;").run(0), 1);
        }
        dueNoParse("J;Ch^:=;");
        dueNoParse("J;CH^k:=;");
        dueNoParse("J;Cra1^:=;");
        dueNoParse("J;CRa1 ^x:=;");
        dueNoParse("J;C:a1^=;");
        dueNoParse("J;C:a1 ^~;");
        dueNoParse("J;C:a1 ^!;");
        for (String ahead : new String[] {"J;Ch", "J;CH", "J;Cra1 ", "J;CRa1 ", "J;C:a1 "}) {
            dueNoParse(ahead + "^");
            dueNoParse(ahead + "^-1:=;");
            dueNoParse(ahead + "^-0:=;");
            dueNoParse(ahead + "^a:=;");
            dueNoParse(ahead + "999^9:=;");
            dueNoParse(ahead + "000^0:=;");
        }
    }

    private static void fourthDigits() {
        sentence("A number is as long as can be: a fourth digit stands for itself");
        dueList("1234", allOfEvent(with("J;Cra1234:=;"), 0, 0), 'r', 0, 123, 4);
        dueList("-1234", allOfEvent(with("J;Cra-1234:=;"), 0, 0), 'r', 0, -123, 4);
        dueList("123456", allOfEvent(with("J;CRd123456:=;"), 0, 0), 'R', 3, 123, 456);
        dueList("0001", allOfEvent(with("J;Cra0001:=;"), 0, 0), 'r', 0, 0, 1);
        dueList("12 34", allOfEvent(with("J;Cra12 34:=;"), 0, 0), 'r', 0, 12, 34);
        due("told 1234", with("J;Cra123 4:a1234=;").run(0), 1);
        dueNoParse("J;Cra123^:=;");
        dueNoParse("J;Cra12^:=;");
        dueNoParse("J;Cra123456^7:=;");
        dueNoParse("J;C:a123456^7=;");
        dueNoParse("J;Ch123^4:=;");
    }

    private static void endsTooEarly() {
        sentence("3 of its length, if it ends too early");
        String text = text();
        int endOfJob = text.indexOf(';') + 1;
        int endOfFirst = text.indexOf('~') + 2;
        for (int n = 0; n < text.length(); n++) {
            String begin = text.substring(0, n);
            int want = n == endOfJob ? 0 : n == endOfFirst ? 1 : -10 - n;
            dueParse(begin, want);
            dueParse(begin + "   ", want >= 0 ? want : -13 - n + blanksTooMuch(begin));
        }
        dueParse(text, 2);
    }

    /** A minus must have its digits right behind it: there the first blank is the sign that cannot stand. */
    private static int blanksTooMuch(String begin) {
        boolean withinInt = begin.endsWith("-") && !begin.endsWith("m-");
        return withinInt ? 3 : 0;
    }

    private static void signsThatCannotStand() {
        sentence("3 the place (from 0) of the first sign that cannot stand there");
        String text = text();
        for (int n = 0; n <= text.length(); n++) {
            dueParse(text.substring(0, n) + "?" + text.substring(n), -10 - n);
            if (n < text.length()) {
                dueParse(text.substring(0, n) + "?" + text.substring(n + 1), -10 - n);
            }
        }
        dueNoParse("^?");
        dueNoParse("^j;");
        dueNoParse("^;");
        dueNoParse("J;^;");
        dueNoParse("J;^J;");
        dueNoParse("J;C:=;^;");
        dueNoParse("J;C:=;^:");
        dueNoParse("J;C:=;^c:=;");
        dueNoParse("J;" + " ".repeat(497) + "^.");
        dueNoParse("J ^? ??");
    }

    private static void tooMuchDigits() {
        sentence("3 a number's first digit that is too much");
        dueNoParse("Jf<123^4;");
        dueNoParse("Jf<-123^45;");
        dueNoParse("Jm*000^0;");
        dueNoParse("Jq999^999;");
        dueNoParse("Jw100^0;");
        dueNoParse("Jt001^0;");
        dueNoParse("J;Ch123^4:=;");
        dueNoParse("J;CH000^0:=;");
        dueNoParse("J;Cra123 123^4:=;");
        dueNoParse("J;C:a123 123^4=;");
    }

    private static void naturalZero() {
        sentence("3 of NAT 0 what stands right behind its digits");
        dueNoParse("Jw0^;");
        dueNoParse("Jw00^;");
        dueNoParse("Jw000^;");
        dueNoParse("Jw0^  ;");
        dueNoParse("Jw  0^  ;");
        dueNoParse("Jw0^ 1;");
        dueNoParse("Jw000^1;");
        dueNoParse("Jw000^ 1;");
        dueNoParse("Jw0^d;");
        dueNoParse("Jt0^;");
        dueNoParse("Jt1t00^ ");
        dueNoParse("Jt0^");
        dueNoParse("Jw000^");
    }

    private static void textIsEmptyThen() {
        sentence("3 THE TEXT is PARSED, and empty then");
        JobTests x = with("J;C:=;");
        due("signs", x.count(2), 0);
        due("nothing is there to be parsed", x.parse(), -10);
        due("a text that cannot be parsed", parsed(x, "J;C"), -13);
        due("signs of it", x.count(2), 0);
        due("the first sign of the next one", x.type('J', 1), 1);
        due("it ends too early", x.parse(), -11);
        typeText(x, " ".repeat(500));
        due("a full text", x.parse(), -510);
        due("there is room again", x.type(' ', 1), 1);
        typeText(x, "J;" + " ".repeat(497));
        due("a full text that can be parsed", x.parse(), 0);
        due("there is room again", x.type(' ', 1), 1);
    }

    private static void jobAndCasesStay() {
        sentence("3 else ..: JOB and CASES stay");
        String[] wrongTexts = {"", "J", "Jt1", "Jm+1;C", "Jm+1;C:=;C:=;C:=;C", "Jsss;Crb2 2Rb3 3:b9 9~;?",
            "J;" + "C:=;".repeat(8) + "C", "Jdddddds;", "Jw0;", "J;C" + "k".repeat(25)};
        String text = text();
        String want = told(with(text));
        for (String wrongText : wrongTexts) {
            JobTests x = with(text);
            int answer = parsed(x, wrongText);
            due("parse of '" + wrongText + "' is refused", answer <= -10 ? 1 : 0, 1);
            dueText("after parse of '" + wrongText + "'", told(x), want);
        }
        JobTests fresh = new JobTests();
        due("a wrong text first", parsed(fresh, "Jd;C:=;C"), -18);
        dueList("the job without steps stays", all(4, fresh::count), 0, 0, 0, 0);
        due("no case came of it", fresh.run(0), BAD);
    }

    private static void nothingOfAnEarlierText() {
        sentence("1 PARSED it is a JOB and its CASES (and nothing of an earlier one)");
        String[] good = {"J;", "Jsf<9;Cra1 1Ra2 2ra3 3:a1 1a3 2a6 3=;Cra1 1:~;", "Jt2;CRb1 1:b1 1b0 3=;", "Jd;C:=;C:!;",
            "Jw5q6;Cra1 1kra1 9xra1 20h30:a6 4~;"};
        String[] between = {"J", "Jddddd;C", "Jd;Ckkkk:a1 1b2 2c3 3~;?", "Jd;C:=;C:=;Chh", "J;", "Js;Cra0 1:a0 1=;",
            "Jm*0;Cra1 1Ra2 2ra3 3kk:a0 1a0 2a0 3a4 4=;C:a1 1a2 2=;C:=;"};
        for (String first : good) {
            for (String second : between) {
                for (String third : good) {
                    JobTests x = with(first);
                    stateOf(x);
                    parsed(x, second);
                    parsed(x, third);
                    dueText("state of " + third + " behind " + second + " behind " + first, stateOf(x),
                        stateOf(with(third)));
                }
            }
        }
    }

    private static void sameQuestionOfTheNextText() {
        sentence("3 THE TEXT is PARSED (what was asked last is asked again)");
        JobTests x = with("Js;Cra1 1Ra2 2:=;");
        dueSame("run", x, 0, 1, () -> x.run(0));
        dueSame("ran", x, 2, 0, () -> x.ran(0, 0));
        dueSame("out", x, 1, 0, () -> x.out(0, 0, 1));
        dueSame("difference", x, 0, NONE, () -> x.difference(0));
        dueSame("schedules", x, 2, 1, () -> x.schedules(0, 3));
        dueSame("schedule", x, 2, 0, () -> x.schedule(0, 3, 0));
        dueSame("equal", x, 0, BAD, () -> x.equal(0, 1));
        dueSame("failing", x, 1, NONE, () -> x.failing(0, 3, 0));
        dueSame("shrink", x, 1, NO, () -> x.shrink(0));
        dueSame("left", x, 1, NO, () -> x.left(0, 0));
        dueSame("cover", x, 2, 0, () -> x.cover(0, 0));
        dueSame("mutant", x, 1, 0, () -> x.mutant(0, 2));
        dueSame("event", x, 'r', 'k', () -> x.event(0, 0, 0));
        dueSame("step", x, 's', 'q', () -> x.step(0, 0));
    }

    /** The same call of one text and right behind it of another one, and of the first one again. */
    private static void dueSame(String call, JobTests x, int first, int other, IntSupplier ask) {
        due(call, ask.getAsInt(), first);
        due("another text", parsed(x, "Jq1;Ck:=;"), 1);
        due(call + " of another text", ask.getAsInt(), other);
        due("the first text", parsed(x, "Js;Cra1 1Ra2 2:=;"), 1);
        due(call + " of the first text again", ask.getAsInt(), first);
    }

    private static void counts() {
        sentence("4 0 STEPS, 1 CASES, 2 signs of THE TEXT, 3 MUTANTS. BAD");
        JobTests x = with("Jf<1f<1f<1m+1m+1m+1;" + "C:=;".repeat(8));
        typeText(x, " ".repeat(500));
        dueList("the most", all(4, x::count), 6, 8, 500, 30);
        JobTests none = with("J;");
        dueList("the least", all(4, none::count), 0, 0, 0, 0);
        for (int what : new int[] {LEAST, -1, 4, 5, GREATEST}) {
            due("count of " + what, x.count(what), BAD);
            due("count of " + what + " of a new object", new JobTests().count(what), BAD);
        }
        due("mutants of d", with("Jd;").count(3), 1);
        due("mutants of s", with("Js;").count(3), 1);
        due("mutants of q", with("Jq1;").count(3), 2);
        due("mutants of w", with("Jw1;").count(3), 2);
        due("mutants of t", with("Jt1;").count(3), 2);
        due("mutants of f", with("Jf<1;").count(3), 5);
        due("mutants of m", with("Jm+1;").count(3), 5);
    }

    private static void events() {
        sentence("19 0 its sign, 1 KEY (NONE), 2 VALUE (0), 3 TIME (NONE). BAD");
        JobTests x = with("J;Cra-999 0Rd999 999h0H999kx:=;C:=;");
        dueList("r", allOfEvent(x, 0, 0), 'r', 0, -999, 0);
        dueList("R", allOfEvent(x, 0, 1), 'R', 3, 999, 999);
        dueList("h", allOfEvent(x, 0, 2), 'h', NONE, 0, 0);
        dueList("H", allOfEvent(x, 0, 3), 'H', NONE, 0, 999);
        dueList("k", allOfEvent(x, 0, 4), 'k', NONE, 0, NONE);
        dueList("x", allOfEvent(x, 0, 5), 'x', NONE, 0, NONE);
        for (int wrong : new int[] {LEAST, -1, 6, GREATEST}) {
            due("event " + wrong, x.event(0, wrong, 0), BAD);
            due("event " + wrong + ", its key", x.event(0, wrong, 1), BAD);
        }
        for (int wrong : new int[] {LEAST, -1, 4, GREATEST}) {
            due("what " + wrong, x.event(0, 0, wrong), BAD);
            due("what " + wrong + " of no event", x.event(0, 6, wrong), BAD);
        }
        for (int wrong : new int[] {LEAST, -1, 2, GREATEST}) {
            due("case " + wrong, x.event(wrong, 0, 0), BAD);
        }
        due("of no events the first", x.event(1, 0, 0), BAD);
    }

    private static void lastEvent() {
        sentence("19 Of EVENT i of a CASE");
        JobTests x = with("J;C" + "k".repeat(23) + "rc7 8:=;Ckrb1 1:=;Ck:=;");
        dueList("the 24th", allOfEvent(x, 0, 23), 'r', 2, 7, 8);
        due("no 25th", x.event(0, 24, 0), BAD);
        due("no third of two", x.event(1, 2, 0), BAD);
        JobTests y = with("J;Ckkk:=;");
        due("fewer events than before", parsed(y, "J;Ck:=;"), 1);
        due("the one", y.event(0, 0, 0), 'k');
        due("no second", y.event(0, 1, 0), BAD);
    }

    private static void steps() {
        sentence("20 0 its sign, 1 its number (0), 2 the sign of its act (0). BAD");
        JobTests x = with("Jf>-999m/999q-0dsw999;");
        dueList("f", allOfStep(x, 0), 'f', -999, '>');
        dueList("m", allOfStep(x, 1), 'm', 999, '/');
        dueList("q", allOfStep(x, 2), 'q', 0, 0);
        dueList("d", allOfStep(x, 3), 'd', 0, 0);
        dueList("s", allOfStep(x, 4), 's', 0, 0);
        dueList("w", allOfStep(x, 5), 'w', 999, 0);
        dueList("t", allOfStep(with("Jt001;"), 0), 't', 1, 0);
        for (int wrong : new int[] {LEAST, -1, 6, GREATEST}) {
            due("step " + wrong, x.step(wrong, 0), BAD);
        }
        for (int wrong : new int[] {LEAST, -1, 3, GREATEST}) {
            due("what " + wrong, x.step(0, wrong), BAD);
            due("what " + wrong + " of no step", x.step(6, wrong), BAD);
        }
    }

    private static void lastStep() {
        sentence("20 Of a STEP");
        JobTests x = with("Jddddds;");
        due("the sixth", x.step(5, 0), 's');
        due("no seventh", x.step(6, 0), BAD);
        due("fewer steps than before", parsed(x, "Jqq;"), -12);
        due("as before", x.step(5, 0), 's');
        due("fewer steps than before", parsed(x, "Js;"), 0);
        due("the one", x.step(0, 0), 's');
        due("no second", x.step(1, 0), BAD);
        due("a number of before is gone", parsed(with("Jf<5;"), "Jd;"), 0);
        JobTests y = with("Jf<5;");
        due("d instead of f<5", parsed(y, "Jd;"), 0);
        dueList("d", allOfStep(y, 0), 'd', 0, 0);
    }
}
