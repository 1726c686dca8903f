/** Edges that the document names for cases that are cut down (======== 5), and in promises 14 and 15. */
public final class ShrinkEdgeTests extends Check {
    public static void main(String[] args) {
        noEvents();
        nothingIsLeft();
        allIsLeft();
        firstEventGoesFirst();
        againFromTheFirst();
        verdictMustBeTheSame();
        marksAndFailuresGo();
        inputsThatAreGone();
        caseStays();
        verdictOne();
        leftPlaces();
        leftFirst();
        refused();
        everyCase();
        end();
    }

    private static void dueLeft(String text, int... places) {
        JobTests x = with(text);
        due("shrink(0) of " + text, x.shrink(0), places.length);
        dueList("left of " + text, all(places.length, i -> x.left(0, i)), places);
        due("left behind the last of " + text, x.left(0, places.length), NONE);
    }

    private static void noEvents() {
        sentence("5 A CASE of VERDICT 0 or 2 is SHRUNK .. till there is none (without EVENTS)");
        dueLeft("J;C:a1 1=;");
        dueLeft("J;C:a1 1~;");
        dueLeft("J;C:!;");
        due("left", with("J;C:!;").left(0, 0), NONE);
    }

    private static void nothingIsLeft() {
        sentence("14 how many EVENTS are left (none)");
        dueLeft("J;Cra1 1:b1 1=;");
        dueLeft("J;C" + "ra1 1".repeat(24) + ":b1 1=;");
        dueLeft("J;C" + "kxh1H1".repeat(6) + ":b1 1~;");
        dueLeft("Jq6;C" + "ra1 1".repeat(24) + ":!;");
    }

    private static void allIsLeft() {
        sentence("14 how many EVENTS are left (all)");
        dueLeft("J;Cra1 1:=;", 0);
        dueLeft("Jq6;Cra0 1:=;", 0);
        int[] places = all(24, i -> i);
        dueLeft("Jsm-24q1;C" + "ra1 1".repeat(24) + ":=;", places);
        dueLeft("Jsf=24;C" + "ra1 1".repeat(24) + ":=;", places);
        JobTests x = with("Jsm-24q1;C" + "ra1 1".repeat(24) + ":=;");
        due("the last one", x.left(0, 23), 23);
        due("none behind it", x.left(0, 24), NONE);
    }

    private static void firstEventGoesFirst() {
        sentence("5 the first EVENT without which its VERDICT is the same is taken out");
        dueLeft("J;Cra1 1ra1 1:=;", 1);
        dueLeft("J;Cra1 1rb2 2rc3 3:=;", 2);
        dueLeft("J;C" + "ra1 1".repeat(24) + ":=;", 23);
        dueLeft("Jq6;Cra0 1ra0 2ra0 3:~;", 2);
        dueLeft("Jsf>4;Cra3 1ra1 1ra4 1ra1 1:=;", 2, 3);
    }

    private static void againFromTheFirst() {
        sentence("5 and again from the first one on, till there is none");
        // without b the verdict would be 1 at first, so a goes ahead of it
        dueLeft("J;Crb1 1ra1 1:a1 1=;");
        dueLeft("J;Cra1 1rb1 1rc1 1:b1 1c1 1=;");
        dueLeft("J;Cra1 1kra2 2xra3 3:a2 2a3 3~;");
        // none can go: without any one of them no sum is 2, and nothing comes
        dueLeft("Jsf=2;Cra-1 1ra1 2ra2 3:=;", 0, 1, 2);
    }

    private static void verdictMustBeTheSame() {
        sentence("5 .. without which its VERDICT is the same (0 stays 0, 2 stays 2)");
        dueLeft("Jq6;Cra1 1ra0 2:=;", 1);
        dueLeft("Jq6;Cra1 1ra0 2:a6 1=;", 1);
        dueLeft("Jq6;Cra0 1ra1 2:=;", 0);
        // without 0 both verdicts would be 0 or 1, with it they are 2
        dueLeft("Jq6;Crb1 1ra0 2rb2 3:~;", 1);
        // of ! the verdict 0 stays where no ZERO is found any more
        dueLeft("Jq6;Cra1 1kra0 2:!;");
        dueLeft("Jq6;Cra0 1:a6 1!;");
        // here the mark must stay: without it nothing is given out, and the verdict is 1
        dueLeft("Jsq6;Cra1 1kra-1 2:!;");
    }

    private static void marksAndFailuresGo() {
        sentence("5 the first EVENT .. is taken out (MARKS and FAILURES are EVENTS)");
        dueLeft("J;Ckxra1 1kx:=;", 2);
        dueLeft("J;Ckx:a1 1=;");
        dueLeft("J;Ck:a1 1=;");
        dueLeft("J;Cx:a1 1=;");
        dueLeft("Jq6;Ckra0 1x:=;", 1);
    }

    private static void inputsThatAreGone() {
        sentence("2 An input without any r, h (R, H) in the CASE is not looked at (the CASE without the EVENT)");
        // ZERO comes of two timers that ring: the first one must ring ahead of the second row, so W must rise to 4;
        // without the other input's watermark that one is not looked at, and W still rises
        dueLeft("Jt3f=0m+1sm-2q1;CH9ra5 1h4ra5 2:=;", 1, 2, 3);
        dueLeft("Jt3f=0m+1sm-2q1;Ch9Ra5 1H4Ra5 2:=;", 1, 2, 3);
        // while a row of the other input is left, its watermark must stay
        dueLeft("Jt3f=0m+1sm-2q1;CH9ra5 1h4Ra5 2:=;", 0, 1, 2, 3);
        dueLeft("Jt3f=0m+1sm-2q1;CH9ra5 1h4ra5 2Rb5 20:=;", 1, 2, 3);
        // without H the row would be late at once, and nothing would come: h goes first, then H can go too
        dueLeft("Jw5;CH0h9ra1 1:=;", 2);
        dueLeft("Jw5;Ch9H0ra1 1:=;", 2);
    }

    private static void caseStays() {
        sentence("14 A CASE is SHRUNK (the CASE itself stays)");
        JobTests x = with("J;Ckra1 1xrb2 2:=;");
        due("shrink", x.shrink(0), 1);
        due("left", x.left(0, 0), 3);
        dueList("its first event", allOfEvent(x, 0, 0), 'k', NONE, 0, NONE);
        dueList("its last event", allOfEvent(x, 0, 3), 'r', 1, 2, 2);
        due("no more events", x.event(0, 4, 0), BAD);
        due("its verdict", x.run(0), 0);
        dueText("its outs", outsOf(x, 0), "a1 1, b2 2");
        due("events that were done", x.ran(0, 4), 5);
        due("its schedules", x.schedule(0, 0, 0), 0);
        due("shrink again", x.shrink(0), 1);
    }

    private static void verdictOne() {
        sentence("14 NO: its VERDICT is 1");
        JobTests x = with("Jq6;C:=;Cra1 1:a6 1=;Cra1 1:a6 1~;Cra0 1:!;Cra1 1:=;Cra0 1:=;Cra1 1:a6 1!;");
        dueList("shrink", all(7, x::shrink), NO, NO, NO, NO, 1, 1, 0);
        dueList("left", all(7, c -> x.left(c, 0)), NO, NO, NO, NO, 0, 0, NONE);
        dueList("run", all(7, x::run), 1, 1, 1, 1, 0, 2, 0);
    }

    private static void leftPlaces() {
        sentence("15 EVENT i that is left (0 the first), by its place in the CASE. NONE: not so many, or i below 0");
        JobTests x = with("Jsf=4;Crb9 1ra2 1krb9 2xra2 2:=;");
        due("shrink", x.shrink(0), 2);
        dueList("left", all(2, i -> x.left(0, i)), 1, 5);
        for (int i : new int[] {LEAST, -2, -1, 2, 3, 24, GREATEST}) {
            due("left at " + i, x.left(0, i), NONE);
        }
    }

    private static void leftFirst() {
        sentence("15 EVENT i that is left (without shrink ahead of it)");
        JobTests x = with("J;Cra1 1rb2 2:=;Cra1 1:a1 1=;");
        due("left", x.left(0, 0), 1);
        due("behind the last", x.left(0, 1), NONE);
        due("of verdict 1", x.left(1, 0), NO);
        due("shrink", x.shrink(0), 1);
    }

    private static void refused() {
        sentence("14, 15 BAD; NO; NONE");
        JobTests x = with("J;Cra1 1:=;C:=;");
        dueBadCase("shrink", 2, x::shrink);
        dueBadCase("left", 2, c -> x.left(c, 0));
        dueBadCase("left at -1", 2, c -> x.left(c, -1));
        dueBadCase("left at 9", 2, c -> x.left(c, 9));
        for (int i : new int[] {LEAST, -1, 0, 1, GREATEST}) {
            due("left at " + i + " of verdict 1", x.left(1, i), NO);
        }
        due("left at -1", x.left(0, -1), NONE);
        due("left at 0", x.left(0, 0), 0);
    }

    private static void everyCase() {
        sentence("14 A CASE is SHRUNK (of as many as can be)");
        JobTests x = with("J;" + "Ckra1 1:=;".repeat(7) + "Ckkra1 1:=;");
        dueList("shrink", all(8, x::shrink), 1, 1, 1, 1, 1, 1, 1, 1);
        dueList("left", all(8, c -> x.left(c, 0)), 1, 1, 1, 1, 1, 1, 1, 2);
        due("another text", parsed(x, "J;Ckkkra1 1:=;"), 1);
        due("left of the other text", x.left(0, 0), 3);
    }
}
