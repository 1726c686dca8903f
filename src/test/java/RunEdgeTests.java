/** Edges that the document names for runs (======== 2), verdicts (======== 3), and in promises 5 to 8. */
public final class RunEdgeTests extends Check {
    /** Makes the least int of -512, and three steps are left. */
    private static final String TO_LEAST = "m*512m*512m*16";

    public static void main(String[] args) {
        noStepsAndMostSteps();
        mostRows();
        filters();
        filtersOfFarInts();
        sumsAndDifferencesWrap();
        productsWrap();
        quotientsAreCut();
        quotientsWrap();
        byZero();
        intByValue();
        intByZero();
        onlyOnce();
        onlyOnceAtThisStep();
        sumsOfAKey();
        sumsWrap();
        endsOfSpans();
        late();
        lateAtFirst();
        lateAtThisStep();
        countsOfASpan();
        timersAreSet();
        timersInPlaceOfEarlierOnes();
        lesserWatermark();
        watermarksThatDoNotRise();
        inputsNotLookedAt();
        noInputs();
        spansUpToW();
        spansInOrder();
        countedNoMore();
        timersUpToW();
        timersInOrder();
        timersAreGone();
        notToldYet();
        wInTheEnd();
        heldUntilMark();
        failureGoesBackToTheMark();
        failureGoesBackToTheBeginning();
        failureBringsBackWatermarks();
        failureDropsWhatIsHeld();
        failuresAreNotDoneAgain();
        zeroEndsTheRun();
        zeroWhileStepsAreTold();
        zeroInTheEnd();
        verdictsOfZero();
        verdictsOfOuts();
        verdictsOfExpectedZero();
        runsAfresh();
        run();
        ran();
        ranSide();
        ranZero();
        ranEvents();
        out();
        outValues();
        difference();
        differenceWhereOneEnds();
        differenceInAnyOrder();
        end();
    }

    private static void noStepsAndMostSteps() {
        sentence("2 what comes behind the last one is an OUT");
        dueOuts("", "", "");
        dueOuts("", "ra5 7", "a5 7");
        dueOuts("", "ra-999 0Rd999 999", "a-999 0, d999 999");
        dueOuts("m+1", "ra5 7", "a6 7");
        dueOuts("m*2m+1m*2m+1m*2m+1", "ra5 7", "a47 7");
        dueOuts("m+1m*2", "ra5 7", "a12 7");
        dueOuts("f>9", "ra5 7", "");
    }

    private static void mostRows() {
        sentence("2 C {0..24 EVENT}: what comes behind the last one is an OUT");
        JobTests x = with("J;C" + "ra1 1".repeat(23) + "rb2 2:=;");
        due("outs of 24 rows", x.ran(0, 0), 24);
        due("the last of them", x.out(0, 23, 1), 2);
        due("none behind it", x.out(0, 24, 1), 0);
        // each row rings a timer of the first t, and that one a timer of the second
        StringBuilder events = new StringBuilder();
        for (int time = 1; time <= 9; time += 2) {
            String rows = "ra1 ? rb1 ? rc1 ? rd1 ?".replace("?", String.valueOf(time));
            events.append(rows).append(time < 9 ? "h" + (time + 2) : "");
        }
        JobTests many = with("Jt1t1;C" + events + ":=;");
        due("outs of 20 rows with timers", many.ran(0, 0), 60);
        dueList("the last of them", all(3, what -> many.out(0, 59, what)), 3, 0, 11);
        due("none behind it", many.out(0, 60, 2), 0);
        JobTests different = with("Jd;C" + "ra1 1ra2 1ra3 1ra4 1rb1 1rb2 1rb3 1rb4 1".repeat(3) + ":=;");
        due("24 rows, eight of them different", different.ran(0, 0), 8);
        JobTests all = with("Jsd;C" + "ra1 1".repeat(24) + ":=;");
        due("24 different rows", all.ran(0, 0), 24);
        JobTests spans = with("Jw1;Cra1 0ra1 1ra1 2ra1 3ra1 4ra1 5ra1 6ra1 7ra1 8ra1 9ra1 10ra1 11ra1 12ra1 13ra1 14"
            + "ra1 15ra1 16ra1 17ra1 18ra1 19ra1 20ra1 21ra1 22ra1 23:=;");
        due("24 spans", spans.ran(0, 0), 24);
        due("the last of them", spans.out(0, 23, 2), 23);
    }

    private static void filters() {
        sentence("2 f lets it on if its VALUE is below, equal to, above INT");
        for (int number : new int[] {-999, -1, 0, 1, 5, 999}) {
            String rows = "Ra" + number + " 1" + (number > -999 ? "ra" + (number - 1) + " 2" : "")
                + (number < 999 ? "rb" + (number + 1) + " 3" : "");
            String below = number > -999 ? "a" + (number - 1) + " 2" : "";
            String above = number < 999 ? "b" + (number + 1) + " 3" : "";
            dueOuts("f<" + number, rows, below);
            dueOuts("f=" + number, rows, "a" + number + " 1");
            dueOuts("f>" + number, rows, above);
        }
        dueOuts("f=-0", "ra0 1", "a0 1");
    }

    private static void filtersOfFarInts() {
        sentence("2 f .. a VALUE (an int)");
        dueOuts(TO_LEAST + "f<999", "ra-512 1", "a-2147483648 1");
        dueOuts(TO_LEAST + "f>999", "ra-512 1", "");
        dueOuts(TO_LEAST + "f>-999", "ra-512 1", "");
        dueOuts(TO_LEAST + "m-1f>-999", "ra-512 1", "a2147483647 1");
        dueOuts(TO_LEAST + "m-1f<-999", "ra-512 1", "");
        dueOuts(TO_LEAST + "f=0", "ra-512 1", "");
    }

    private static void sumsAndDifferencesWrap() {
        sentence("2 m: its VALUE becomes it by INT (ints that wrap): + and -");
        dueOuts("m+999", "ra999 1", "a1998 1");
        dueOuts("m-999", "ra-999 1", "a-1998 1");
        dueOuts("m+-999", "ra-999 1", "a-1998 1");
        dueOuts("m--999", "ra999 1", "a1998 1");
        dueOuts("m+0m-0", "ra7 1", "a7 1");
        dueOuts(TO_LEAST + "m-1", "ra-512 1", "a2147483647 1");
        dueOuts(TO_LEAST + "m-1m+1", "ra-512 1", "a-2147483648 1");
        dueOuts(TO_LEAST + "m+-999", "ra-512 1", "a2147482649 1");
    }

    private static void productsWrap() {
        sentence("2 m: its VALUE becomes it by INT (ints that wrap): *");
        dueOuts("m*0", "ra999 1", "a0 1");
        dueOuts("m*-1", "ra999 1", "a-999 1");
        dueOuts("m*999m*999m*999", "ra999 1", "a-" + -(999 * 999 * 999 * 999) + " 1");
        dueOuts("m*512m*512m*8", "ra512 1", "a1073741824 1");
        dueOuts("m*512m*512m*16", "ra512 1", "a-2147483648 1");
        dueOuts("m*512m*512m*32", "ra512 1", "a0 1");
        dueOuts(TO_LEAST + "m*-1", "ra-512 1", "a-2147483648 1");
    }

    private static void quotientsAreCut() {
        sentence("2 m .. / is cut");
        dueOuts("m/2", "ra7 1ra-7 1ra1 1ra-1 1ra0 1", "a3 1, a-3 1, a0 1, a0 1, a0 1");
        dueOuts("m/-2", "ra7 1ra-7 1ra1 1ra-1 1ra0 1", "a-3 1, a3 1, a0 1, a0 1, a0 1");
        dueOuts("m/999", "ra999 1ra998 1ra-999 1ra-998 1", "a1 1, a0 1, a-1 1, a0 1");
        dueOuts("m/1", "ra-5 1", "a-5 1");
        dueOuts("m/-1", "ra-5 1", "a5 1");
    }

    private static void quotientsWrap() {
        sentence("2 m: .. ints that wrap; / ..");
        dueOuts(TO_LEAST + "m/-1", "ra-512 1", "a-2147483648 1");
        dueOuts(TO_LEAST + "m/1", "ra-512 1", "a-2147483648 1");
        dueOuts(TO_LEAST + "m/2", "ra-512 1", "a-1073741824 1");
        dueOuts(TO_LEAST + "m-1m/-1", "ra-512 1", "a-2147483647 1");
    }

    private static void byZero() {
        sentence("2 m .. by 0 it finds ZERO");
        for (String zero : new String[] {"0", "-0", "000", "-00"}) {
            dueList("m/" + zero, allOfRan(with("Jm/" + zero + ";Cra1 1:=;"), 0), 0, 0, 1, 0, 1);
            dueList("0 by " + zero, allOfRan(with("Jm/" + zero + ";Cra0 1:=;"), 0), 0, 0, 1, 0, 1);
            dueOuts("m+" + zero, "ra5 1", "a5 1");
            dueOuts("m-" + zero, "ra5 1", "a5 1");
            dueOuts("m*" + zero, "ra5 1", "a0 1");
        }
        dueList("no row comes to it", allOfRan(with("Jm/0;Ch5kx:=;"), 0), 0, 0, 0, NONE, 3);
        dueList("none is let on to it", allOfRan(with("Jf>5m/0;Cra5 1:=;"), 0), 0, 0, 0, NONE, 1);
        dueOuts("m/1", "ra0 1", "a0 1");
    }

    private static void intByValue() {
        sentence("2 q: its VALUE becomes INT by it, cut");
        dueOuts("q7", "ra2 1ra-2 1ra7 1ra8 1ra-8 1ra1 1ra-1 1", "a3 1, a-3 1, a1 1, a0 1, a0 1, a7 1, a-7 1");
        dueOuts("q-7", "ra2 1ra-2 1", "a-3 1, a3 1");
        dueOuts("q0", "ra5 1ra-5 1", "a0 1, a0 1");
        dueOuts("q999", "ra999 1ra-999 1ra998 1", "a1 1, a-1 1, a1 1");
        dueOuts("q-999", "ra1 1", "a-999 1");
        dueOuts(TO_LEAST + "q999", "ra-512 1", "a0 1");
    }

    private static void intByZero() {
        sentence("2 q .. (by 0 ZERO)");
        dueList("q5 by 0", allOfRan(with("Jq5;Cra0 1:=;"), 0), 0, 0, 1, 0, 1);
        dueList("q0 by 0", allOfRan(with("Jq0;Cra0 1:=;"), 0), 0, 0, 1, 0, 1);
        dueList("q5 by 1", allOfRan(with("Jq5;Cra1 1:=;"), 0), 1, 0, 0, NONE, 1);
        dueList("q5 by -1", allOfRan(with("Jq5;Cra-1 1:=;"), 0), 1, 0, 0, NONE, 1);
        dueList("a product that wraps to 0", allOfRan(with("Jm*512m*512m*32q5;Cra512 1:=;"), 0), 0, 0, 1, 3, 1);
    }

    private static void onlyOnce() {
        sentence("2 d: on only if none with its KEY and VALUE came to this STEP before");
        dueOuts("d", "ra1 1ra1 2", "a1 1");
        dueOuts("d", "ra1 1rb1 1", "a1 1, b1 1");
        dueOuts("d", "ra1 1ra2 1", "a1 1, a2 1");
        dueOuts("d", "ra1 1ra2 1ra1 3ra2 4rb2 5", "a1 1, a2 1, b2 5");
        dueOuts("d", "ra1 1Ra1 1", "a1 1");
        dueOuts("d", "ra0 1ra-0 1ra-1 1", "a0 1, a-1 1");
        dueOuts("d", "rd1 1rc2 1rd1 1rc2 1", "d1 1, c2 1");
        dueOuts(TO_LEAST + "d", "ra-512 1ra512 2rb512 3", "a-2147483648 1, b-2147483648 3");
    }

    private static void onlyOnceAtThisStep() {
        sentence("2 d: .. came to this STEP before");
        dueOuts("f>1d", "ra1 1ra2 2ra2 3", "a2 2");
        dueOuts("m/2d", "ra2 1ra3 2ra4 3", "a1 1, a2 3");
        dueOuts("dm/2d", "ra2 1ra3 2ra2 3ra4 4", "a1 1, a2 4");
        dueOuts("w5d", "ra9 1ra9 6ra9 11ra9 12", "a1 4, a2 14");
        dueOuts("t3d", "ra0 1h9", "a0 1");
    }

    private static void sumsOfAKey() {
        sentence("2 s: its VALUE becomes the sum of the VALUES of its KEY that came to this STEP, this one too");
        dueOuts("s", "ra5 1", "a5 1");
        dueOuts("s", "ra5 1ra-5 2ra0 3", "a5 1, a0 2, a0 3");
        dueOuts("s", "ra1 1rb2 1rc3 1rd4 1ra1 1rb2 1rc3 1rd4 1", "a1 1, b2 1, c3 1, d4 1, a2 1, b4 1, c6 1, d8 1");
        dueOuts("s", "ra1 1Ra1 2", "a1 1, a2 2");
        dueOuts("f>0s", "ra1 1ra-9 2ra1 3", "a1 1, a2 3");
        dueOuts("ss", "ra1 1ra1 2ra1 3", "a1 1, a3 2, a6 3");
        dueOuts("w5s", "ra9 1ra9 2ra9 6", "a2 4, a3 9");
    }

    private static void sumsWrap() {
        sentence("2 s: .. the sum .. (a VALUE is an int)");
        dueOuts(TO_LEAST + "s", "ra-512 1ra-512 2ra-512 3", "a-2147483648 1, a0 2, a-2147483648 3");
        dueOuts("m*512m*512m*8s", "ra512 1ra512 2ra512 3", "a1073741824 1, a-2147483648 2, a-1073741824 3");
    }

    private static void endsOfSpans() {
        sentence("2 w n: spans of n: that of TIME t ends at e, the least multiple of n above t");
        dueOuts("w5", "ra1 0", "a1 4");
        dueOuts("w5", "ra1 4", "a1 4");
        dueOuts("w5", "ra1 5", "a1 9");
        dueOuts("w5", "ra1 9", "a1 9");
        dueOuts("w1", "ra1 0", "a1 0");
        dueOuts("w1", "ra1 999", "a1 999");
        dueOuts("w2", "ra1 999", "a1 999");
        dueOuts("w999", "ra1 0", "a1 998");
        dueOuts("w999", "ra1 998", "a1 998");
        dueOuts("w999", "ra1 999", "a1 1997");
        dueOuts("w998", "ra1 999", "a1 1995");
        dueOuts("w500", "ra1 499ra1 500ra1 999", "a1 499, a2 999");
    }

    private static void late() {
        sentence("2 LATE, if e is not above the W told to this STEP last: it goes to THE SIDE");
        JobTests x = with("Jw5;Ch4ra1 4:=;Ch5ra1 4:=;Ch6ra1 4:=;Ch9ra1 5:=;Ch10ra1 9:=;Ch999ra1 999:=;Ch10ra1 0:=;");
        dueList("W 4, e 5", allOfRan(x, 0), 1, 0, 0, NONE, 2);
        dueList("W 5, e 5", allOfRan(x, 1), 0, 1, 0, NONE, 2);
        dueList("W 6, e 5", allOfRan(x, 2), 0, 1, 0, NONE, 2);
        dueList("W 9, e 10", allOfRan(x, 3), 1, 0, 0, NONE, 2);
        dueList("W 10, e 10", allOfRan(x, 4), 0, 1, 0, NONE, 2);
        dueList("W 999, e 1000", allOfRan(x, 5), 1, 0, 0, NONE, 2);
        dueList("W 10, e 5", allOfRan(x, 6), 0, 1, 0, NONE, 2);
        dueOuts("w5", "ra1 1h5ra1 1rb1 1ra1 6", "a1 4, a1 9");
    }

    private static void lateAtFirst() {
        sentence("2 the W told to this STEP last (-1 at first)");
        dueList("no W was told", allOfRan(with("Jw1;Cra1 0:=;"), 0), 1, 0, 0, NONE, 1);
        dueList("W 0", allOfRan(with("Jw1;Ch0ra1 0:=;"), 0), 1, 0, 0, NONE, 2);
        dueList("W 1", allOfRan(with("Jw1;Ch1ra1 0:=;"), 0), 0, 1, 0, NONE, 2);
        dueList("W 1, but it is B's row", allOfRan(with("Jw1;Ch1Ra1 0:=;"), 0), 1, 0, 0, NONE, 2);
    }

    private static void lateAtThisStep() {
        sentence("2 the W told to this STEP last (those behind it .. are not told this W yet)");
        dueOuts("w5w5", "ra1 1h5", "a1 4");
        dueOuts("w5w4", "ra1 1h8", "a1 7");
        dueOuts("w5w1", "ra1 1h9", "a1 4");
        dueOuts("t3w5", "ra1 1h9", "a2 4");
        JobTests x = with("Jw5w2;Ch9ra1 1ra1 11:=;");
        dueList("late at the first one", allOfRan(x, 0), 1, 1, 0, NONE, 3);
        dueList("what is late comes no further", allOfCover(x, 1), 1, 1, 1, 0, 0);
        // 7 is a timer's time that W 9 had passed when it was set; the span of w ended at 8
        JobTests y = with("Jt3w4;Ch9ra1 4h10:=;");
        dueList("a row and its timer are late at the second one", allOfRan(y, 0), 0, 2, 0, NONE, 3);
    }

    private static void countsOfASpan() {
        sentence("2 Else one more is counted for its KEY and e");
        dueOuts("w5", "ra7 1", "a1 4");
        dueOuts("w5", "ra7 1".repeat(24), "a24 4");
        dueOuts("w5", "ra7 1rb7 1ra7 6ra7 2", "a2 4, b1 4, a1 9");
        dueOuts("w5", "ra7 1Ra7 1", "a2 4");
        dueOuts("w5", "rd0 1rd-9 2rd9 3", "d3 4");
    }

    private static void timersAreSet() {
        sentence("2 t n: it goes on, and its KEY's timer is set to TIME + n");
        dueOuts("t1", "ra5 0", "a5 0, a0 1");
        dueOuts("t999", "ra5 999", "a5 999, a0 1998");
        dueOuts("t3", "ra5 1rb6 1rc7 1rd8 1", "a5 1, b6 1, c7 1, d8 1, a0 4, b0 4, c0 4, d0 4");
        dueOuts("t3t4", "ra5 1", "a5 1, a0 4, a0 8");
        dueOuts("t3f>0", "ra5 1", "a5 1");
        dueOuts("f>5t3", "ra5 1", "");
    }

    private static void timersInPlaceOfEarlierOnes() {
        sentence("2 t n: .. in place of an earlier one");
        dueOuts("t3", "ra5 1ra6 2", "a5 1, a6 2, a0 5");
        dueOuts("t3", "ra5 2ra6 1", "a5 2, a6 1, a0 4");
        dueOuts("t3", "ra5 1rb6 2", "a5 1, b6 2, a0 4, b0 5");
        dueOuts("t3", "ra5 1ra6 7h4rb1 1h10", "a5 1, a6 7, b1 1, b0 4, a0 10");
        dueOuts("t3", "ra5 1h4ra6 1", "a5 1, a0 4, a6 1, a0 4");
        dueOuts("t3", "ra5 1Ra6 2", "a5 1, a6 2, a0 5");
    }

    private static void lesserWatermark() {
        sentence("2 W of the JOB is the lesser one of the WATERMARKS of its inputs, each -1 at first");
        dueOuts("t3", "ra5 1h4Rb6 9", "a5 1, b6 9, a0 4, b0 12");
        dueOuts("t3", "ra5 1h4H3Rb6 9", "a5 1, b6 9, a0 4, b0 12");
        dueOuts("t3", "ra5 1h4H4Rb6 9", "a5 1, a0 4, b6 9, b0 12");
        dueOuts("t3", "ra5 1H4h4Rb6 9", "a5 1, a0 4, b6 9, b0 12");
        dueOuts("t3", "ra5 1H4h3Rb6 9", "a5 1, b6 9, a0 4, b0 12");
        dueOuts("t3", "ra5 1h9H4Rb6 9", "a5 1, a0 4, b6 9, b0 12");
        dueOuts("t3", "ra5 1H9h4Rb6 9", "a5 1, a0 4, b6 9, b0 12");
        dueOuts("w1", "h0H0ra1 0", "a1 0");
        dueOuts("w1", "h1H1ra1 0", "");
        dueOuts("w1", "h1H0ra1 0", "a1 0");
    }

    private static void watermarksThatDoNotRise() {
        sentence("2 one that a WATERMARK event does not raise stays");
        dueOuts("w5", "h5h4ra1 1", "");
        dueOuts("w5", "h5h0ra1 1", "");
        dueOuts("w5", "H5H4Ra1 1", "");
        dueOuts("w5", "h5H9h4ra1 1", "");
        dueOuts("w5", "H5h9H4ra1 1", "");
        // a timer that was set too late waits for W to rise: the same W, told again, is no rise
        dueOuts("t3", "h9ra1 1h9rb2 20", "a1 1, b2 20, a0 4, b0 23");
        dueOuts("t3", "h9ra1 1h8rb2 20", "a1 1, b2 20, a0 4, b0 23");
        dueOuts("t3", "h9ra1 1h10rb2 20", "a1 1, a0 4, b2 20, b0 23");
        dueOuts("t3", "h9H5ra1 1h12rb2 20H5", "a1 1, b2 20, a0 4, b0 23");
        dueOuts("t3", "h9H5ra1 1H6rb2 20", "a1 1, a0 4, b2 20, b0 23");
    }

    private static void inputsNotLookedAt() {
        sentence("2 An input without any r, h (R, H) in the CASE is not looked at");
        dueOuts("w5", "h5ra1 1", "");
        dueOuts("w5", "H5Ra1 1", "");
        dueOuts("w5", "h5ra1 1R a1 9", "a1 4, a1 9");
        dueOuts("w5", "h5ra1 1H0", "a1 4");
        dueOuts("w5", "H5Ra1 1r a1 9", "a1 4, a1 9");
        dueOuts("w5", "H5Ra1 1h0", "a1 4");
        dueOuts("w5", "h5ra1 1kx", "");
    }

    private static void noInputs() {
        sentence("2 (both: W is -1)");
        for (String events : new String[] {"", "k", "x", "kx", "xk", "kkxx"}) {
            dueOuts("w1t1s", events, "");
            dueVerdict("Jw1t1m/0;C" + events + ":=;", 1);
        }
    }

    private static void spansUpToW() {
        sentence("2 w: of each e not above W ..: a ROW with the KEY, how many, TIME e - 1 goes on");
        dueGivenAtMark("w5", "ra1 1h4", "");
        dueGivenAtMark("w5", "ra1 1h5", "a1 4");
        dueGivenAtMark("w5", "ra1 1h6", "a1 4");
        dueGivenAtMark("w5", "ra1 1ra1 9h9", "a1 4");
        dueGivenAtMark("w5", "ra1 1ra1 9h10", "a1 4, a1 9");
        dueGivenAtMark("w1", "ra1 0h0", "");
        dueGivenAtMark("w1", "ra1 0h1", "a1 0");
        dueGivenAtMark("w1", "ra1 998h999", "a1 998");
        dueGivenAtMark("w1", "ra1 999h999", "");
    }

    /** What a mark behind the events gives out: the row that comes then finds ZERO ahead of the steps. */
    private static void dueGivenAtMark(String steps, String events, String outs) {
        dueOuts("q9" + steps, events + "kra0 0", outs);
    }

    private static void spansInOrder() {
        sentence("2 w: of each e not above W in rising order, and KEYS of one e in order");
        dueOuts("w5", "rb1 11ra1 11rb1 1ra1 6h20", "b1 4, a1 9, a1 14, b1 14");
        dueOuts("w5", "rd1 1rc1 1rb1 1ra1 1", "a1 4, b1 4, c1 4, d1 4");
        dueOuts("w1", "ra1 3ra1 1ra1 2ra1 0", "a1 0, a1 1, a1 2, a1 3");
        dueOuts("w5", "rd1 1ra1 6", "d1 4, a1 9");
    }

    private static void countedNoMore() {
        sentence("2 w: .. and it is counted no more");
        dueOuts("w5", "ra1 1h5h6h9", "a1 4");
        dueOuts("w5", "ra1 1ra1 6h5h6h10", "a1 4, a1 9");
        dueOuts("w5", "ra1 1rb1 6rc1 11h5rb1 6rc1 11h10", "a1 4, b2 9, c2 14");
        dueOuts("w5", "ra1 1ra1 6ra1 7h5h10", "a1 4, a2 9");
        dueOuts("w5", "ra1 1ra1 2ra1 3rb1 1ra1 6rb1 7rb1 8h5h10", "a3 4, b1 4, a1 9, b2 9");
    }

    private static void timersUpToW() {
        sentence("2 t: timers not above W ..: a ROW with the KEY, 0, its time goes on");
        dueOuts("t3", "ra5 1h3rb6 9", "a5 1, b6 9, a0 4, b0 12");
        dueOuts("t3", "ra5 1h4rb6 9", "a5 1, a0 4, b6 9, b0 12");
        dueOuts("t3", "ra5 1h5rb6 9", "a5 1, a0 4, b6 9, b0 12");
        dueOuts("t1", "ra5 0h0rb6 9", "a5 0, b6 9, a0 1, b0 10");
        dueOuts("t1", "ra5 0h1rb6 9", "a5 0, a0 1, b6 9, b0 10");
    }

    private static void timersInOrder() {
        sentence("2 t: timers .. by their times, then KEYS");
        dueOuts("t3", "ra5 3rb5 2rc5 1rd5 0", "a5 3, b5 2, c5 1, d5 0, d0 3, c0 4, b0 5, a0 6");
        dueOuts("t3", "rd5 1rc5 1rb5 1ra5 1", "d5 1, c5 1, b5 1, a5 1, a0 4, b0 4, c0 4, d0 4");
        dueOuts("t3", "rd5 0rb5 1ra5 1", "d5 0, b5 1, a5 1, d0 3, a0 4, b0 4");
    }

    private static void timersAreGone() {
        sentence("2 t: .. each is gone");
        dueOuts("t3", "ra5 1h4h5h6", "a5 1, a0 4");
        dueOuts("t3", "ra5 1rb5 5h4h5h8", "a5 1, b5 5, a0 4, b0 8");
        dueOuts("t3", "ra5 1h4ra5 2h5", "a5 1, a0 4, a5 2, a0 5");
    }

    private static void notToldYet() {
        sentence("2 What goes on from one STEP goes through those behind it, that are not told this W yet");
        dueOuts("w5w10", "ra1 1ra1 6h10", "a2 9");
        dueOuts("t3t3", "ra5 1h7", "a5 1, a0 4, a0 7");
        dueOuts("t3t3", "ra5 1h6rb5 9", "a5 1, a0 4, b5 9, b0 12, a0 7, b0 15");
        dueOuts("t3w5", "ra5 1h5", "a2 4");
        dueOuts("w5t3", "ra5 1h7rb1 20", "a1 4, a0 7, b1 24, b0 27");
        dueOuts("w5t3", "ra5 1h6rb1 20", "a1 4, b1 24, a0 7, b0 27");
        dueOuts("w5m*7w5", "ra5 1h5", "a1 4");
        dueOuts("w1w1w1w1w1w1", "ra5 1h2", "a1 1");
    }

    private static void wInTheEnd() {
        sentence("2 At the end of a CASE W becomes 5000");
        dueOuts("w5", "ra1 1", "a1 4");
        dueOuts("w5", "ra1 1h999", "a1 4");
        dueOuts("t3", "ra5 999h999", "a5 999, a0 1002");
        // 999 -> 1997 -> 2993 -> 3987 -> 4979
        dueOuts("w999w998w997w996", "ra1 999", "a1 4979");
        dueOuts("w999w998w997w996w500", "ra1 999", "a1 4999");
        dueOuts("w999w998w997w996w625", "ra1 999", "a1 4999");
        dueOuts("w999w998w997w996w501", "ra1 999", "");
        dueOuts("w999w998w997w996w995", "ra1 999", "");
        dueOuts("w999w998w997w996t21", "ra1 999", "a1 4979, a0 5000");
        dueOuts("w999w998w997w996t22", "ra1 999", "a1 4979");
    }

    private static void heldUntilMark() {
        sentence("2 OUTS are HELD, and given out at a MARK and at the end");
        JobTests x = with("Jq6;Cra1 1ra0 2:=;Cra1 1kra0 2:=;Cra1 1kra2 2ra0 3:=;Cra1 1ra2 2kra0 3:=;"
            + "Cra1 1kra2 2kra0 3:=;Ckra1 1ra0 2:=;Cra1 1kkra0 2:=;Cra1 1ra2 2:=;");
        String[] outs = {"", "a6 1", "a6 1", "a6 1, a3 2", "a6 1, a3 2", "", "a6 1", "a6 1, a3 2"};
        for (int c = 0; c < outs.length; c++) {
            dueText("given out by case " + c, outsOf(x, c), outs[c]);
        }
    }

    private static void failureGoesBackToTheMark() {
        sentence("2 A FAILURE: all is as it was behind the latest MARK");
        dueOuts("d", "ra1 1kra2 2x", "a1 1, a2 2");
        dueOuts("d", "ra1 1kra1 2x", "a1 1");
        dueOuts("d", "ra1 1kra2 2kra2 3ra3 4x", "a1 1, a2 2, a3 4");
        dueOuts("s", "ra1 1kra1 2xra1 3", "a1 1, a2 2, a3 3");
        dueOuts("s", "ra1 1krb1 1kra1 2rb1 2x", "a1 1, b1 1, a2 2, b2 2");
        dueOuts("w5", "ra1 1kra1 2xra1 3", "a3 4");
        dueOuts("w5", "ra1 1kh5x", "a1 4");
        dueOuts("w5", "ra1 6kra1 1x", "a1 4, a1 9");
        dueOuts("w5", "ra1 6ra1 7rb1 11kra1 1rb1 1x", "a1 4, b1 4, a2 9, b1 14");
        dueOuts("w5", "ra1 1rb1 6rb1 7kh5x", "a1 4, b2 9");
        dueOuts("w5w5", "ra1 6kra1 1h5xra1 8h10", "a1 4, a1 9");
        dueOuts("w5", "ra1 1h5kra1 6x", "a1 4, a1 9");
        dueOuts("t3", "ra5 1kh4x", "a5 1, a0 4");
        dueOuts("t3", "ra5 1kra6 2xh4rb1 1", "a5 1, a6 2, b1 1, b0 4, a0 5");
        dueOuts("t3", "ra5 1h4kx", "a5 1, a0 4");
        dueOuts("", "ra1 1kx", "a1 1");
        dueOuts("", "kxra1 1", "a1 1");
    }

    private static void failureGoesBackToTheBeginning() {
        sentence("2 (or at the beginning)");
        dueOuts("", "x", "");
        dueOuts("", "xra1 1", "a1 1");
        dueOuts("", "ra1 1x", "a1 1");
        dueOuts("d", "ra1 1x", "a1 1");
        dueOuts("s", "ra1 1ra1 2xra1 3", "a1 1, a2 2, a3 3");
        dueOuts("w5", "ra1 1x", "a1 4");
        dueOuts("w5", "ra1 1h5x", "a1 4");
        dueOuts("t3", "ra5 1h4x", "a5 1, a0 4");
    }

    private static void failureBringsBackWatermarks() {
        sentence("2 A FAILURE: all is as it was .. WATERMARKS and W");
        dueOuts("w5", "h5kxra1 1", "");
        dueOuts("w5", "H5kxRa1 1", "");
        dueOuts("w5", "h5H5kxRa1 1", "");
        dueOuts("w5", "kh9Ra1 1H5x", "a1 4");
        dueOuts("w5", "kH9ra1 1h5x", "a1 4");
        dueOuts("w5", "h1H1kh9Ra1 1H5x", "a1 4");
        dueOuts("w5", "h1H1kH9ra1 1h5x", "a1 4");
        JobTests x = with("Jw5;Ch5ra1 1xra1 2:=;Ch5ra1 1kra1 2x:=;Ch5kra1 1xx:=;");
        dueList("the side of the beginning", allOfRan(x, 0), 0, 2, 0, NONE, 6);
        dueList("the side of the mark", allOfRan(x, 1), 0, 2, 0, NONE, 6);
        dueList("twice", allOfRan(x, 2), 0, 1, 0, NONE, 7);
    }

    private static void failureDropsWhatIsHeld() {
        sentence("2 A FAILURE: .. what is HELD is gone; then EVENTS from there up to it are done again");
        dueOuts("", "ra1 1x", "a1 1");
        dueOuts("", "ra1 1kra2 2x", "a1 1, a2 2");
        dueOuts("", "ra1 1xra2 2xra3 3x", "a1 1, a2 2, a3 3");
        dueOuts("", "ra1 1kra2 2xkra3 3x", "a1 1, a2 2, a3 3");
        dueOuts("", "ra1 1" + "x".repeat(23), "a1 1");
    }

    private static void failuresAreNotDoneAgain() {
        sentence("2 EVENTS .. are done again, but for FAILURES");
        JobTests x = with("J;Cra1 1xx:=;Cra1 1" + "x".repeat(23) + ":=;Cra1 1xkxx:=;Cxxx:=;Cra1 1xra2 2x:=;");
        due("two failures", x.ran(0, 4), 1 + 2 + 2);
        due("23 failures", x.ran(1, 4), 1 + 23 + 23);
        due("a mark between", x.ran(2, 4), 1 + 2 + 1 + 2);
        due("failures alone", x.ran(3, 4), 3);
        due("one, then two again", x.ran(4, 4), 1 + 2 + 1 + 3);
    }

    private static void zeroEndsTheRun() {
        sentence("2 ZERO ends the run at once; what is HELD is gone");
        JobTests x = with("Jsq6;Cra1 1kra2 2ra-3 3ra5 5kx:=;Cra0 1:=;Cra1 1kra-1 2:=;Ckxra0 1k:=;");
        dueList("behind a mark", allOfRan(x, 0), 1, 0, 1, 1, 4);
        dueText("given out", outsOf(x, 0), "a6 1");
        dueList("the first event", allOfRan(x, 1), 0, 0, 1, 1, 1);
        dueList("right behind a mark", allOfRan(x, 2), 1, 0, 1, 1, 3);
        dueList("ahead of a mark", allOfRan(x, 3), 0, 0, 1, 1, 3);
        dueList("no step behind it", allOfCover(with("Jq6s;Cra0 1ra1 1:=;"), 1), 0, 0, 0, 0, 0);
    }

    private static void zeroWhileStepsAreTold() {
        sentence("2 ZERO ends the run at once (while STEPS are told W)");
        JobTests x = with("Jt3q6;Cra1 1rb1 1h9kra1 1:=;");
        dueList("the first timer", allOfRan(x, 0), 0, 0, 1, 1, 3);
        dueList("no timer behind it", allOfCover(x, 0), 2, 3, 1, 0, 0);
        dueList("zero is found once", allOfCover(x, 1), 3, 2, 0, 0, 1);
        JobTests y = with("Jw5m-1q6;Cra1 1ra1 2rb1 1rc1 1h9k:=;");
        dueList("the second span", allOfRan(y, 0), 0, 0, 1, 2, 5);
        dueList("no span behind it", allOfCover(y, 0), 4, 2, 2, 0, 0);
        JobTests z = with("Jt3f=0q6t5;Cra1 1h9:=;");
        dueList("a step behind it is not told", allOfRan(z, 0), 0, 0, 1, 2, 2);
        dueList("so its timers do not ring", allOfCover(z, 3), 0, 0, 0, 0, 0);
        JobTests behind = with("Jw5m-1q6t5;Cra1 1ra1 2rb1 1h99:=;");
        dueList("nor do those that are set", allOfCover(behind, 3), 1, 1, 0, 0, 0);
    }

    private static void zeroInTheEnd() {
        sentence("2 At the end of a CASE W becomes 5000 .. ZERO ends the run at once");
        JobTests x = with("Jt3q6;Cra1 1:!;Cra1 1k:a6 1!;Cra1 1k:!;Cra1 1rb2 2:=;");
        dueList("nothing is given out", allOfRan(x, 0), 0, 0, 1, 1, 1);
        dueList("but what a mark gave", allOfRan(x, 1), 1, 0, 1, 1, 2);
        dueList("verdicts", all(4, x::run), 1, 1, 0, 2);
    }

    private static void verdictsOfZero() {
        sentence("3 with = or ~ 2 (BROKEN), if it finds ZERO");
        JobTests x = with("Jq6;Cra0 1:=;Cra0 1:~;Cra1 1kra0 1:a6 1=;Cra1 1kra0 1:a6 1~;Cra0 1:a1 1=;Cra0 1:a1 1~;"
            + "Cra1 1:=;Cra1 1:~;");
        dueList("verdicts", all(8, x::run), 2, 2, 2, 2, 2, 2, 0, 0);
    }

    private static void verdictsOfOuts() {
        sentence("3 1, if OUTS given out are those told, in this order (=), in any (~); else 0");
        JobTests none = with("J;C:=;C:~;C:a1 1=;C:a1 1~;Cra1 1:=;Cra1 1:~;Cra1 1:a1 1=;Cra1 1:a1 1~;");
        dueList("none and one", all(8, none::run), 1, 1, 0, 0, 0, 0, 1, 1);
        JobTests two = with("J;Cra1 1rb2 2:a1 1b2 2=;Cra1 1rb2 2:a1 1b2 2~;Cra1 1rb2 2:b2 2a1 1=;Cra1 1rb2 2:b2 2a1 1~;"
            + "Cra1 1rb2 2:a1 1=;Cra1 1rb2 2:b2 2~;Cra1 1rb2 2:a1 1b2 2b2 2=;Cra1 1rb2 2:b2 2a1 1a1 1~;");
        dueList("two", all(8, two::run), 1, 1, 0, 1, 0, 0, 0, 0);
        JobTests near = with("J;Cra1 1:b1 1=;Cra1 1:a2 1=;Cra1 1:a1 2=;Cra1 1:b1 1~;Cra1 1:a2 1~;Cra1 1:a1 2~;"
            + "Cra1 1:a-1 1=;Cra1 1:a-1 1~;");
        dueList("one that is another", all(8, near::run), 0, 0, 0, 0, 0, 0, 0, 0);
        JobTests often = with("J;Cra1 1ra1 1rb1 1:a1 1b1 1b1 1~;Cra1 1ra1 1rb1 1:a1 1b1 1a1 1~;Cra1 1ra1 1:a1 1a1 1=;");
        dueList("one that comes twice", all(3, often::run), 0, 1, 1);
    }

    private static void verdictsOfExpectedZero() {
        sentence("3 With !: 1, if it finds ZERO, and OUTS given out are those told in this order; else 0");
        JobTests x = with("Jq6;C:!;Cra1 1:a6 1!;Cra0 1:!;Cra0 1:a6 1!;Cra1 1ra0 1:!;Cra1 1ra0 1:a6 1!;"
            + "Cra1 1kra0 1:a6 1!;Cra1 1kra0 1:!;");
        dueList("verdicts", all(8, x::run), 0, 0, 1, 0, 1, 0, 1, 0);
        JobTests order = with("Jq6;Cra1 1ra2 2kra0 1:a6 1a3 2!;Cra1 1ra2 2kra0 1:a3 2a6 1!;");
        dueList("in this order", all(2, order::run), 1, 0);
    }

    private static void runsAfresh() {
        sentence("3 VERDICT of a CASE (it runs afresh)");
        JobTests x = with("Jdsw5t3;Cra1 1h9ra1 2:a1 4a0 7=;Cra1 1h9ra1 2:a1 4a0 7=;");
        for (int again = 0; again < 3; again++) {
            due("the first case", x.run(0), 1);
            due("the second case", x.run(1), 1);
            due("the second case again", x.run(1), 1);
        }
        dueText("its outs", outsOf(x, 0), "a1 4, a0 7");
    }

    private static void run() {
        sentence("5 VERDICT. BAD");
        JobTests x = with("Jq6;C:=;Cra1 1:=;Cra0 1:=;");
        dueList("verdicts", all(3, x::run), 1, 0, 2);
        dueBadCase("run", 3, x::run);
        JobTests full = with("J;" + "C:=;".repeat(8));
        due("the last case", full.run(7), 1);
        dueBadCase("run", 8, full::run);
        dueBadCase("run without cases", 0, with("J;")::run);
    }

    private static void ran() {
        sentence("6 what = 0 how many OUTS were given out .. BAD");
        JobTests x = with("Jq6;C:a1 1=;Cra1 1:=;Cra1 1ra2 2kra3 3ra0 4:=;");
        dueList("outs", all(3, c -> x.ran(c, 0)), 0, 1, 2);
        for (int what : new int[] {LEAST, -1, 5, 6, GREATEST}) {
            due("what " + what, x.ran(0, what), BAD);
            due("what " + what + " of no case", x.ran(3, what), BAD);
        }
        for (int what = 0; what < 5; what++) {
            int kind = what;
            dueBadCase("ran", 3, c -> x.ran(c, kind));
        }
    }

    private static void ranSide() {
        sentence("6 1 ROWS on THE SIDE (in the end)");
        JobTests x = with("Jw5;C:=;Ch5ra1 1:=;Ch5" + "ra1 1".repeat(23) + ":=;Ch5ra1 1x:=;Ch5kra1 1x:=;Ch5ra1 1kx:=;");
        dueList("on the side", all(6, c -> x.ran(c, 1)), 0, 1, 23, 1, 1, 1);
        JobTests two = with("Jw5w2;Ch9ra1 1:=;Cra1 1h9:=;");
        dueList("of two steps", all(2, c -> two.ran(c, 1)), 1, 0);
        JobTests timers = with("Jt1w5;Ch9ra1 1ra2 1:=;Ch9ra1 1h30:=;");
        due("two late rows and the one timer of their key", timers.ran(0, 1), 3);
        due("a row and its timer", timers.ran(1, 1), 2);
    }

    private static void ranZero() {
        sentence("6 2 whether it finds ZERO (1, 0), 3 the STEP that found it (NONE)");
        JobTests x = with("Jq6m+1m+1m+1m+1m/0;Cra0 1:=;Cra1 1:=;C:=;");
        dueList("whether", all(3, c -> x.ran(c, 2)), 1, 1, 0);
        dueList("where", all(3, c -> x.ran(c, 3)), 0, 5, NONE);
        JobTests none = with("J;Cra0 1:=;");
        due("without steps", none.ran(0, 2), 0);
        due("without steps, where", none.ran(0, 3), NONE);
    }

    private static void ranEvents() {
        sentence("6 4 EVENTS that were done (again, too; MARKS, FAILURES, the one that finds ZERO count)");
        JobTests x = with("Jq6;C:=;Ck:=;Cx:=;Ch1:=;CH1:=;Cra1 1:=;CRa1 1:=;Cra1 1Ra0 1ra1 1kx:=;");
        dueList("one event", all(8, c -> x.ran(c, 4)), 0, 1, 1, 1, 1, 1, 1, 2);
        JobTests y = with("J;C" + "k".repeat(24) + ":=;C" + "ra1 1".repeat(12) + "x".repeat(12) + ":=;");
        due("24 marks", y.ran(0, 4), 24);
        due("12 rows, done again 12 times", y.ran(1, 4), 12 + 12 + 12 * 12);
        due("from the mark on", with("J;Cra1 1kh1H1xra1 1x:=;").ran(0, 4), 2 + 2 + 1 + 2 + 1 + 1 + 3);
    }

    private static void out() {
        sentence("7 0 KEY (0 .. 3), 1 VALUE, 2 TIME. BAD; 0: there is none such (i below 0, too)");
        JobTests x = with("J;Cra5 7rb6 8rc7 9rd8 10:=;C:a1 1=;");
        for (int i = 0; i < 4; i++) {
            int place = i;
            dueList("out " + i, all(3, what -> x.out(0, place, what)), i, 5 + i, 7 + i);
        }
        for (int i : new int[] {LEAST, -1, 4, 5, GREATEST}) {
            dueList("out " + i, all(3, what -> x.out(0, i, what)), 0, 0, 0);
            dueList("out " + i + " of none", all(3, what -> x.out(1, i, what)), 0, 0, 0);
            due("what 3 of out " + i, x.out(0, i, 3), BAD);
            due("what -1 of out " + i, x.out(0, i, -1), BAD);
            due("case 2, out " + i, x.out(2, i, 0), BAD);
            due("case -1, out " + i, x.out(-1, i, 0), BAD);
        }
        for (int what : new int[] {LEAST, -1, 3, GREATEST}) {
            due("what " + what, x.out(0, 0, what), BAD);
            due("what " + what + " of none", x.out(1, 0, what), BAD);
        }
        dueBadCase("out", 2, c -> x.out(c, 0, 0));
    }

    private static void outValues() {
        sentence("7 Of OUT i given out by a run: .. 1 VALUE (an int), 2 TIME");
        JobTests x = with("J" + TO_LEAST + "m-0d;Cra-512 0rd-512 999rb1 5rb-1 5:=;");
        dueText("far values", outsOf(x, 0), "a-2147483648 0, d-2147483648 999, b4194304 5, b-4194304 5");
        dueText("the greatest int", outsOf(with("J" + TO_LEAST + "m-1;Crd-512 999:=;"), 0), "d2147483647 999");
        dueText("-1 and 0", outsOf(with("J;Crd-1 0ra0 0:=;"), 0), "d-1 0, a0 0");
        JobTests held = with("Jq6;Cra1 1kra2 2ra0 3:=;");
        due("what was given out", held.out(0, 0, 1), 6);
        dueList("what was held", all(3, what -> held.out(0, 1, what)), 0, 0, 0);
    }

    private static void difference() {
        sentence("8 The first place at which OUTS given out, and told, are not the same. NONE. BAD");
        JobTests x = with("J;C:=;Cra1 1:a1 1=;Cra1 1:b1 1=;Cra1 1:a2 1=;Cra1 1:a1 2=;Cra1 1rb2 2:a1 1b2 3=;"
            + "Cra1 1rb2 2:b2 2a1 1=;C:!;");
        dueList("differences", all(8, x::difference), NONE, NONE, 0, 0, 0, 1, 0, NONE);
        dueBadCase("difference", 8, x::difference);
        JobTests three = with("J;Cra1 1rb2 2:a1 1=;C:=;");
        dueBadCase("difference", 2, three::difference);
        JobTests zero = with("Jq6;Cra1 1ra2 2kra0 3:a6 1a3 2!;Cra1 1ra2 2kra0 3:a3 2a6 1!;Cra1 1kra0 3:a6 1=;"
            + "Cra0 3:=;");
        dueList("of !, and of ZERO", all(4, zero::difference), NONE, 0, NONE, NONE);
        String outs = "a1 1a1 2a1 3a1 4a1 5a1 6a1 7a1 8a1 9a2 1a2 2a2 3a2 4a2 5a2 6";
        JobTests last = with("J;Cr" + outs.replace("a", "ra").substring(1) + "ra9 9:" + outs + "a9 8=;");
        due("the sixteenth of sixteen", last.difference(0), 15);
    }

    private static void differenceWhereOneEnds() {
        sentence("8 (the one that ends first, too)");
        JobTests x = with("J;Cra1 1:=;C:a1 1=;Cra1 1rb2 2:a1 1=;Cra1 1:a1 1b2 2=;Cra1 1:~;C:a1 1~;Cra1 1rb2 2:a1 1~;"
            + "Crb2 2:b2 2b2 2~;");
        dueList("differences", all(8, x::difference), 0, 0, 1, 1, 0, 0, 1, 1);
    }

    private static void differenceInAnyOrder() {
        sentence("8 of ~ both in the order of KEYS, VALUES, TIMES");
        JobTests x = with("J;Crb1 1ra9 9:a9 9b1 1~;Crb1 1ra9 9:b1 2a9 9~;Crb1 1ra9 9:b1 1a9 8~;Cra2 1ra1 9:a1 9a2 2~;"
            + "Cra1 2ra1 1:a1 1a1 3~;Cra1 1ra-1 2:a-1 2a1 2~;Cra1 1ra-1 2:a1 1a-1 3~;");
        dueList("differences", all(7, x::difference), NONE, 1, 0, 1, 1, 1, 0);
        JobTests far = with("J" + TO_LEAST + ";Cra-512 1ra0 1:a0 1~;Cra0 1ra-512 1:a0 1~;");
        dueList("the least int comes first", all(2, far::difference), 0, 0);
        JobTests greatest = with("J" + TO_LEAST + "m-1;Cra-512 1ra0 1:a-1 1~;");
        due("the greatest int comes last", greatest.difference(0), 1);
        JobTests key = with("J" + TO_LEAST + "m-1;Cra-512 1rb0 1:b-1 1~;Crb0 1ra-512 1:a-1 1~;");
        dueList("a key goes ahead of its value", all(2, key::difference), 0, 0);
    }
}
