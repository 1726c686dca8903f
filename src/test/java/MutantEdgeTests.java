/** Edges that the document names for mutants (======== 6), and in promises 16 to 18. */
public final class MutantEdgeTests extends Check {
    public static void main(String[] args) {
        coverOfNoCases();
        coverCame();
        coverWentOn();
        coverByW();
        coverSide();
        coverZero();
        coverRunsOnce();
        coverAgain();
        coverOfAllCases();
        coverRefused();
        mutantsByStep();
        mutantsOfFilters();
        mutantsOfActs();
        mutantsOfQuotients();
        mutantsLeftOut();
        mutantsOfSpansAndTimers();
        mutantsOfFarNumbers();
        mutantsThatDivideByZero();
        killsOfVerdictOne();
        killsByAnotherVerdict();
        firstAndHowMany();
        mostMutants();
        noMutants();
        mutantRefused();
        jobStays();
        alone();
        aloneOfAllCases();
        aloneRefused();
        end();
    }

    private static void coverOfNoCases() {
        sentence("16 All CASES run once (none)");
        JobTests x = with("Jf<1m+1q1dsw1;");
        for (int k = 0; k < 6; k++) {
            dueList("step " + k, allOfCover(x, k), 0, 0, 0, 0, 0);
        }
        dueList("a case without events", allOfCover(with("Jt1;C:=;Ckx:=;"), 0), 0, 0, 0, 0, 0);
    }

    private static void coverCame() {
        sentence("16 of a STEP 0 ROWS that came to it");
        JobTests x = with("Jf>1d;Cra1 1ra2 2Ra2 3ra3 4:=;");
        dueList("the first step", allOfCover(x, 0), 4, 3, 0, 0, 0);
        dueList("the second step", allOfCover(x, 1), 3, 2, 0, 0, 0);
        JobTests full = with("Jdddddd;C" + "ra1 1".repeat(24) + ":=;");
        dueList("24 rows", allOfCover(full, 0), 24, 1, 0, 0, 0);
        dueList("the last step", allOfCover(full, 5), 1, 1, 0, 0, 0);
    }

    private static void coverWentOn() {
        sentence("16 1 that went on from it");
        dueList("f", allOfCover(with("Jf=1;Cra0 1ra1 1ra2 1:=;"), 0), 3, 1, 0, 0, 0);
        dueList("m", allOfCover(with("Jm+1;Cra0 1ra1 1:=;"), 0), 2, 2, 0, 0, 0);
        dueList("q", allOfCover(with("Jq1;Cra1 1ra2 1ra0 1ra3 1:=;"), 0), 3, 2, 0, 0, 1);
        dueList("d", allOfCover(with("Jd;Cra1 1ra1 1ra2 1:=;"), 0), 3, 2, 0, 0, 0);
        dueList("s", allOfCover(with("Js;Cra1 1ra1 1:=;"), 0), 2, 2, 0, 0, 0);
        dueList("w", allOfCover(with("Jw5;Cra1 1ra1 1ra1 6:=;"), 0), 3, 2, 2, 0, 0);
        dueList("t", allOfCover(with("Jt5;Cra1 1ra1 1rb1 1:=;"), 0), 3, 5, 2, 0, 0);
    }

    private static void coverByW() {
        sentence("16 2 that W made go on (these are among 1)");
        dueList("spans", allOfCover(with("Jw5;Cra1 1h5ra1 6:=;"), 0), 2, 2, 2, 0, 0);
        dueList("timers", allOfCover(with("Jt5;Cra1 1h6ra1 6:=;"), 0), 2, 4, 2, 0, 0);
        JobTests x = with("Jt5w5t5;Cra1 1:=;");
        dueList("the first t", allOfCover(x, 0), 1, 2, 1, 0, 0);
        dueList("w behind it", allOfCover(x, 1), 2, 2, 2, 0, 0);
        dueList("the second t", allOfCover(x, 2), 2, 3, 1, 0, 0);
        dueList("a span that never ends", allOfCover(with("Jw999w998w997w996w995;Cra1 999:=;"), 4), 1, 0, 0, 0, 0);
    }

    private static void coverSide() {
        sentence("16 3 ROWS for THE SIDE");
        dueList("two of three are late", allOfCover(with("Jw5;Ch5ra1 1ra1 5ra1 4:=;"), 0), 3, 1, 1, 2, 0);
        JobTests x = with("Jt1w5;Ch9ra1 1:=;Ch9ra1 1:=;");
        dueList("t has no side", allOfCover(x, 0), 2, 4, 2, 0, 0);
        dueList("of two cases", allOfCover(x, 1), 4, 0, 0, 4, 0);
    }

    private static void coverZero() {
        sentence("16 4 how often it found ZERO");
        JobTests x = with("Jq6m-6m/0;Cra0 1ra0 1:=;Cra0 1:!;Cra1 1:=;Cra2 1ra0 1:=;C:=;");
        dueList("q", allOfCover(x, 0), 4, 2, 0, 0, 2);
        dueList("m-", allOfCover(x, 1), 2, 2, 0, 0, 0);
        dueList("m/", allOfCover(x, 2), 2, 0, 0, 0, 2);
        JobTests all = with("Jm/0;" + "Cra1 1:!;".repeat(8));
        dueList("in each of eight cases", allOfCover(all, 0), 8, 0, 0, 0, 8);
    }

    private static void coverRunsOnce() {
        sentence("16 All CASES run once (whatever has been asked before)");
        JobTests x = with("Js;Cra1 1Ra2 2:a1 1a3 2=;Cra1 1:=;");
        for (int c = 0; c < 2; c++) {
            x.run(c);
            x.ran(c, 0);
            x.shrink(c);
            x.failing(c, 3, 0);
            x.alone(c);
        }
        dueList("first", allOfCover(x, 0), 3, 3, 0, 0, 0);
        x.run(0);
        x.equal(0, 1);
        dueList("again", allOfCover(x, 0), 3, 3, 0, 0, 0);
        due("another text", parsed(x, "Js;Cra1 1:=;"), 1);
        dueList("of the other text", allOfCover(x, 0), 1, 1, 0, 0, 0);
    }

    private static void coverAgain() {
        sentence("16 (what is done again behind a FAILURE counts again)");
        dueList("two rows, three times", allOfCover(with("Js;Cra1 1ra1 1xx:=;"), 0), 6, 6, 0, 0, 0);
        dueList("from the mark on", allOfCover(with("Js;Cra1 1kra1 1x:=;"), 0), 3, 3, 0, 0, 0);
        dueList("behind a mark nothing", allOfCover(with("Js;Cra1 1kx:=;"), 0), 1, 1, 0, 0, 0);
        dueList("made by W", allOfCover(with("Jw5;Cra1 1h5xx:=;"), 0), 3, 3, 3, 0, 0);
        dueList("late", allOfCover(with("Jw5;Ch5kra1 1xx:=;"), 0), 3, 0, 0, 3, 0);
    }

    private static void coverOfAllCases() {
        sentence("16 All CASES run once (as many as can be)");
        JobTests x = with("Jd;" + "Cra1 1ra1 1:=;".repeat(8));
        dueList("eight cases", allOfCover(x, 0), 16, 8, 0, 0, 0);
        dueList("the last one counts", allOfCover(with("Jd;" + "C:=;".repeat(7) + "Cra1 1:=;"), 0), 1, 1, 0, 0, 0);
    }

    private static void coverRefused() {
        sentence("16 BAD");
        JobTests x = with("Jds;Cra1 1:=;");
        for (int step : new int[] {LEAST, -1, 2, 3, 6, GREATEST}) {
            due("step " + step, x.cover(step, 0), BAD);
            due("step " + step + ", what 5", x.cover(step, 5), BAD);
        }
        for (int what : new int[] {LEAST, -1, 5, 6, GREATEST}) {
            due("what " + what, x.cover(0, what), BAD);
            due("what " + what + " of the last step", x.cover(1, what), BAD);
        }
        due("no steps", with("J;Cra1 1:=;").cover(0, 0), BAD);
        JobTests full = with("Jdddddd;");
        due("the sixth", full.cover(5, 4), 0);
        due("no seventh", full.cover(6, 0), BAD);
    }

    private static void mutantsByStep() {
        sentence("6 MUTANTS of the JOB, by STEPS, of each in this order");
        JobTests x = with("Jdf<1sm+1w5q1;");
        int[] steps = {0, 1, 1, 1, 1, 1, 2, 3, 3, 3, 3, 3, 4, 4, 5, 5};
        int[] ways = {0, 0, 1, 2, 3, 4, 0, 0, 1, 2, 3, 4, 0, 1, 0, 1};
        due("how many", x.count(3), 16);
        dueList("their steps", all(16, k -> x.mutant(k, 0)), steps);
        dueList("their ways", all(16, k -> x.mutant(k, 1)), ways);
    }

    /** Which mutants of a job a case of verdict 1 kills, by a sign each: x if it does. */
    private static void dueKills(String job, String test, String killed) {
        JobTests x = with("J" + job + ";C" + test + ";");
        due("verdict of " + job + " " + test, x.run(0), 1);
        StringBuilder got = new StringBuilder();
        for (int k = 0; k < x.count(3); k++) {
            got.append(x.mutant(k, 4) == 1 ? 'x' : x.mutant(k, 4) == 0 ? '-' : '?');
        }
        dueText("mutants of " + job + " that " + test + " kills", got.toString(), killed);
    }

    private static void mutantsOfFilters() {
        sentence("6 f: the other signs (in the order < = >), INT and 1, INT less 1, left out");
        dueKills("f<5", "ra4 1:a4 1=", "xx-x-");
        dueKills("f<5", "ra5 1:=", "x-x-x");
        dueKills("f<5", "ra6 1:=", "-x--x");
        dueKills("f<5", "ra3 1:a3 1=", "xx---");
        dueKills("f=5", "ra4 1:=", "x--xx");
        dueKills("f=5", "ra5 1:a5 1=", "xxxx-");
        dueKills("f=5", "ra6 1:=", "-xx-x");
        dueKills("f>5", "ra4 1:=", "x---x");
        dueKills("f>5", "ra5 1:=", "-x-xx");
        dueKills("f>5", "ra6 1:a6 1=", "xxx--");
        dueKills("f>5", "ra7 1:a7 1=", "xx---");
        dueKills("f<0", "ra0 1:=", "x-x-x");
        dueKills("f>-1", "ra-1 1:=", "-x-xx");
    }

    private static void mutantsOfActs() {
        sentence("6 m: the other acts (in the order + - * /), INT and 1, left out");
        // of 12 and 3: + 15, - 9, * 36, / 4, with 4: 16, 8, 48, 3
        dueKills("m+3", "ra12 1:a15 1=", "xxxxx");
        dueKills("m+2", "ra2 1:a4 1=", "x-xxx");
        dueKills("m+0", "ra5 1:a5 1=", "-xxx-");
        dueKills("m-2", "ra4 1:a2 1=", "xx-xx");
        dueKills("m-0", "ra5 1:a5 1=", "-xxx-");
        dueKills("m*2", "ra2 1:a4 1=", "-xxxx");
        dueKills("m*1", "ra5 1:a5 1=", "xx-x-");
        dueKills("m/2", "ra4 1:a2 1=", "x-xxx");
        dueKills("m/1", "ra5 1:a5 1=", "xx-x-");
        dueKills("m/3", "ra3 1:a1 1=", "xxxxx");
        // INT less 1 is no mutant of m: 2 by 1 would be 2
        due("how many", with("Jm/2;").count(3), 5);
    }

    private static void mutantsOfQuotients() {
        sentence("6 q: INT and 1, left out");
        dueKills("q6", "ra1 1:a6 1=", "xx");
        dueKills("q6", "ra2 1:a3 1=", "-x");
        dueKills("q7", "ra2 1:a3 1=", "xx");
        dueKills("q4", "ra2 1:a2 1=", "--");
        dueKills("q-1", "ra5 1:a0 1=", "-x");
        dueKills("q6", "ra0 1:!", "-x");
    }

    private static void mutantsLeftOut() {
        sentence("6 d, s: left out");
        dueKills("d", "ra1 1ra1 1:a1 1=", "x");
        dueKills("d", "ra1 1:a1 1=", "-");
        dueKills("s", "ra1 1ra1 1:a1 1a2 1=", "x");
        dueKills("s", "ra1 1:a1 1=", "-");
        dueKills("ds", "ra1 1ra1 1ra2 1:a1 1a3 1=", "xx");
        dueKills("dd", "ra1 1ra1 1:a1 1=", "--");
        dueKills("dddddd", "ra1 1ra1 1:a1 1=", "------");
        JobTests x = with("Jf<1m+1q1dst1;");
        int[] leftOut = {0, 0, 0, 0, 1, 0, 0, 0, 0, 1, 0, 1, 1, 1, 0, 1};
        dueList("which are left out", all(x.count(3), k -> x.mutant(k, 2)), leftOut);
    }

    private static void mutantsOfSpansAndTimers() {
        sentence("6 w, t: n and 1, left out");
        dueKills("w5", "ra1 1:a1 4=", "xx");
        dueKills("w5", "ra1 5ra1 1h5:a1 4a1 9=", "xx");
        dueKills("w5", ":=", "--");
        dueKills("w1", "ra1 1:a1 1=", "--");
        dueKills("w1", "ra1 0:a1 0=", "x-");
        dueKills("t5", "ra1 1:a1 1a0 6=", "xx");
        dueKills("t5f>0", "ra1 1:a1 1=", "--xxxxx");
        dueKills("t5w5", "ra1 1:a1 4a1 9=", "-xxx");
    }

    private static void mutantsOfFarNumbers() {
        sentence("6 INT and 1, INT less 1, n and 1 (of the least and the greatest)");
        dueKills("f<999", "ra999 1:=", "x-x-x");
        dueKills("f>-999", "ra-999 1:=", "-x-xx");
        dueKills("f=999", "ra999 1:a999 1=", "xxxx-");
        dueKills("f=-999", "ra-999 1:a-999 1=", "xxxx-");
        dueKills("m+999", "ra-999 1:a0 1=", "xxxxx");
        dueKills("m+-1", "ra1 1:a0 1=", "xxxxx");
        dueKills("q999", "ra1 1:a999 1=", "xx");
        dueKills("w999", "ra1 998:a1 998=", "x-");
        dueKills("t999", "ra1 0:a1 0a0 999=", "xx");
        dueKills("t998", "ra1 1:a1 1a0 999=", "xx");
    }

    private static void mutantsThatDivideByZero() {
        sentence("6 A MUTANT with which its VERDICT is another one (2)");
        dueKills("m/-1", "ra5 1:a-5 1=", "xx-xx");
        dueKills("m*0", "ra5 1:a0 1=", "xxxxx");
        dueKills("m/0", "ra5 1:!", "xxxxx");
        dueKills("m/0", "ra0 1:!", "xxxxx");
        dueKills("f>0q6", "ra0 1:=", "-x-xx--");
        JobTests x = with("Jm*0;Cra0 1:a0 1~;");
        due("by 0 it finds ZERO", x.mutant(2, 3), 0);
        due("0 by 0 alone", x.alone(0), 1);
    }

    private static void killsOfVerdictOne() {
        sentence("6 A CASE of VERDICT 1 KILLS a MUTANT");
        JobTests x = with("Jq6;Cra1 1:=;Cra0 1:=;Cra1 1:a7 1=;Cra1 1:a1 1=;Cra0 1:a0 1~;Cra1 1:a6 1!;");
        dueList("verdicts", all(6, x::run), 0, 2, 0, 0, 2, 0);
        dueList("the first mutant", allOfMutant(x, 0), 0, 0, 0, NONE, 0);
        dueList("the second mutant", allOfMutant(x, 1), 0, 1, 1, NONE, 0);
        dueList("alone", all(6, x::alone), 0, 0, 0, 0, 0, 0);
    }

    private static void killsByAnotherVerdict() {
        sentence("6 KILLS a MUTANT with which its VERDICT is another one (0, 2)");
        JobTests x = with("Jf>0q6;Cra0 1:=;Cra1 1:a6 1=;Cra1 1:a6 1~;");
        // f<0 f=0 f>1 f>-1 without f, q7 without q
        dueList("how many kill", all(7, k -> x.mutant(k, 4)), 2, 3, 2, 1, 1, 2, 2);
        dueList("the first that kills", all(7, k -> x.mutant(k, 3)), 1, 0, 1, 0, 0, 1, 1);
        dueList("alone", all(3, x::alone), 2, 0, 0);
        JobTests order = with("Jd;Crb1 1ra1 1rb1 1:a1 1b1 1~;Crb1 1ra1 1:a1 1b1 1~;");
        dueList("in any order", all(2, c -> order.alone(c)), 1, 0);
    }

    private static void firstAndHowMany() {
        sentence("17 3 the first CASE that KILLS it (NONE), 4 how many do");
        JobTests x = with("Jd;" + "C:=;".repeat(7) + "Cra1 1ra1 1:a1 1=;");
        dueList("the last case alone", allOfMutant(x, 0), 0, 0, 1, 7, 1);
        JobTests all = with("Jd;" + "Cra1 1ra1 1:a1 1=;".repeat(8));
        dueList("every case", allOfMutant(all, 0), 0, 0, 1, 0, 8);
        JobTests some = with("Jd;C:=;Cra1 1ra1 1:a1 1=;Cra1 1ra1 1:=;Cra1 1ra1 1:a1 1=;");
        dueList("two of four", allOfMutant(some, 0), 0, 0, 1, 1, 2);
        dueList("no case", allOfMutant(with("Jd;"), 0), 0, 0, 1, NONE, 0);
    }

    private static void mostMutants() {
        sentence("17 Of a MUTANT (by its place) (as many as can be)");
        JobTests x = with("Jm+1m+1m+1m+1m+1m+1;" + "Cra1 1:a7 1=;".repeat(8));
        due("how many", x.count(3), 30);
        dueList("the first", allOfMutant(x, 0), 0, 0, 0, 0, 8);
        dueList("the last but one", allOfMutant(x, 28), 5, 3, 0, 0, 8);
        dueList("the last", allOfMutant(x, 29), 5, 4, 1, 0, 8);
        due("none behind it", x.mutant(30, 0), BAD);
    }

    private static void noMutants() {
        sentence("17 Of a MUTANT (none)");
        JobTests x = with("J;Cra1 1:a1 1=;");
        due("how many", x.count(3), 0);
        dueList("the first", allOfMutant(x, 0), BAD, BAD, BAD, BAD, BAD);
        due("alone", x.alone(0), 0);
    }

    private static void mutantRefused() {
        sentence("17 BAD");
        JobTests x = with("Jq6d;Cra1 1:a6 1=;");
        for (int k : new int[] {LEAST, -1, 3, 4, 30, GREATEST}) {
            dueList("mutant " + k, allOfMutant(x, k), BAD, BAD, BAD, BAD, BAD);
        }
        for (int what : new int[] {LEAST, -1, 5, 6, GREATEST}) {
            due("what " + what, x.mutant(0, what), BAD);
            due("what " + what + " of no mutant", x.mutant(3, what), BAD);
        }
        dueList("the last", allOfMutant(x, 2), 1, 0, 1, NONE, 0);
    }

    private static void jobStays() {
        sentence("17 MUTANTS of the JOB (the JOB itself stays)");
        JobTests x = with("Jf>1;Cra1 1ra2 2:a2 2=;");
        dueList("a mutant", allOfMutant(x, 4), 0, 4, 1, 0, 1);
        dueList("its step", allOfStep(x, 0), 'f', 1, '>');
        due("its steps", x.count(0), 1);
        due("its verdict", x.run(0), 1);
        dueText("its outs", outsOf(x, 0), "a2 2");
        due("another text", parsed(x, "Jf>1;Cra2 2:a2 2=;"), 1);
        dueList("a mutant of it", allOfMutant(x, 4), 0, 4, 1, NONE, 0);
    }

    private static void alone() {
        sentence("18 How many MUTANTS CASE c alone KILLS");
        JobTests x = with("Jf<5;Cra4 1:a4 1=;Cra5 1:=;Cra9 1:a9 1=;C:=;");
        // the first case kills = > and INT less 1, the second one = INT and 1, and left out
        dueList("alone", all(4, x::alone), 2, 2, 0, 0);
        JobTests twice = with("Jd;Cra1 1ra1 1:a1 1=;Cra1 1ra1 1:a1 1=;");
        dueList("two that kill the same", all(2, twice::alone), 0, 0);
        due("all of them", with("Jm+3;Cra12 1:a15 1=;").alone(0), 5);
        due("none", with("Jm+3;C:=;").alone(0), 0);
        due("a case that fails", with("Jm+3;Cra12 1:=;").alone(0), 0);
    }

    private static void aloneOfAllCases() {
        sentence("18 How many MUTANTS CASE c alone KILLS (of as many as can be)");
        JobTests x = with("Jm+1m+1m+1m+1m+1m+1;" + "C:=;".repeat(7) + "Cra1 1:a7 1=;");
        due("the last case", x.alone(7), 30);
        due("another case", x.alone(0), 0);
        due("no ninth case", x.alone(8), BAD);
        JobTests both = with("Jm+1m+1m+1m+1m+1m+1;Cra1 1:a7 1=;" + "C:=;".repeat(6) + "Cra1 1:a7 1=;");
        dueList("the first and the last kill all", new int[] {both.alone(0), both.alone(7)}, 0, 0);
    }

    private static void aloneRefused() {
        sentence("18 BAD");
        JobTests x = with("Jd;Cra1 1ra1 1:a1 1=;C:=;");
        dueBadCase("alone", 2, x::alone);
        due("as if nothing had been asked", x.alone(0), 1);
        dueBadCase("alone without cases", 0, with("Jd;")::alone);
    }
}
