/** Each promise of the document by itself, with answers worked out by hand. */
public final class PromiseTests extends Check {
    public static void main(String[] args) {
        newObject();
        type();
        parse();
        parseLimits();
        count();
        runVerdicts();
        runSteps();
        runSpans();
        runTimers();
        runWatermarks();
        runMarksAndFailures();
        ran();
        out();
        difference();
        schedules();
        schedule();
        equal();
        failing();
        shuffle();
        shrinkAndLeft();
        cover();
        mutant();
        alone();
        event();
        step();
        parsedAnew();
        end();
    }

    private static void newObject() {
        sentence("1 a new object");
        JobTests x = new JobTests();
        for (int what = 0; what < 4; what++) {
            due("count " + what, x.count(what), 0);
        }
        due("run", x.run(0), BAD);
        due("step", x.step(0, 0), BAD);
        due("event", x.event(0, 0, 0), BAD);
        due("mutant", x.mutant(0, 0), BAD);
        due("cover", x.cover(0, 0), BAD);
        due("parse", x.parse(), -10);
        with("Jd;C:=;");
        due("count of another object", new JobTests().count(1), 0);
    }

    private static void type() {
        sentence("2 type");
        JobTests x = new JobTests();
        due("n 0", x.type(' ', 0), BAD);
        due("n 9", x.type(0x2020202020202020L, 9), BAD);
        due("n -1", x.type(' ', -1), BAD);
        due("31", x.type(31, 1), BAD);
        due("127", x.type(127, 1), BAD);
        due("255", x.type(255, 1), BAD);
        due("one of two", x.type(' ', 2), BAD);
        due("the first of two", x.type(0x2000, 2), BAD);
        due("the eighth of eight", x.type(0x7f20202020202020L, 8), BAD);
        due("a minus", x.type(-1, 8), BAD);
        due("nothing was typed", x.count(2), 0);
        due("32", x.type(32, 1), 1);
        due("126", x.type(126, 1), 2);
        due("above n nothing is looked at", x.type(0xff00ff0041L | 0x4100, 2), 4);
        due("eight", x.type(0x4141414141414141L, 8), 12);
        JobTests order = new JobTests();
        order.type('J' | ';' << 8, 2);
        due("the lowest byte first", order.parse(), 0);
        JobTests full = new JobTests();
        for (int i = 0; i < 62; i++) {
            due("eight more", full.type(0x2020202020202020L, 8), 8 * i + 8);
        }
        due("five more are too many", full.type(0x2020202020L, 5), NO);
        due("no sign comes ahead of too many", full.type(0x2020202000L, 5), BAD);
        due("four more", full.type(0x20202020L, 4), 500);
        due("one more is too many", full.type(' ', 1), NO);
        due("it stays", full.count(2), 500);
        due("it ends too early", full.parse(), -510);
        due("it is empty then", full.count(2), 0);
        due("and can be typed again", full.type('J', 1), 1);
    }

    private static void parse() {
        sentence("3 parse");
        dueParse("J;", 0);
        dueParse("  J  ;  ", 0);
        dueParse("J;C:=;C:~;C:!;", 3);
        dueParse(" J f < -12 m * 3 q -4 d s w 007 ; C r a -1 2 R d 3 4 h 5 H 006 k x : c -7 8 b 9 999 ~ ; ", 1);
        dueParse("Jf<-12m*3q-4dsw7;Cra-1 2Rd3 4h5H6kx:c-7 8b9 999~;", 1);
        dueParse("Jf=-0f>000m+0m-0m/0q0;", 0);
        dueParse("Jt1t2;", 0);
        dueParse("J;Cra1234rb-123456:a1234c-999999=;", 1);
        dueNoParse("^");
        dueNoParse("   ^");
        dueNoParse("^j;");
        dueNoParse("J^");
        dueNoParse("J  ^");
        dueNoParse("J;^;");
        dueNoParse("J;^J;");
        dueNoParse("J;C:=; ^x");
        dueNoParse("J^z;");
        dueNoParse("J^C:=;");
        dueNoParse("Jf^-1;");
        dueNoParse("Jf ^+1;");
        dueNoParse("Jm^<1;");
        dueNoParse("Jf<^;");
        dueNoParse("Jf<-^;");
        dueNoParse("Jf<-^ 1;");
        dueNoParse("Jf<-^-1;");
        dueNoParse("Jf<1^-;");
        dueNoParse("Jf<123^4;");
        dueNoParse("Jf<-123^4;");
        dueNoParse("Jf<1 ^2;");
        dueNoParse("Jq^;");
        dueNoParse("Jq^");
        dueNoParse("Jd^1;");
        dueNoParse("Js^<;");
        dueNoParse("Jw^-1;");
        dueNoParse("Jw^;");
        dueNoParse("Jw0^;");
        dueNoParse("Jw00^ ;");
        dueNoParse("Jw0^ 1;");
        dueNoParse("Jw000^1;");
        dueNoParse("Jw123^4;");
        dueNoParse("Jt0^");
        dueNoParse("J;C^");
        dueNoParse("J;C^=;");
        dueNoParse("J;C^f:=;");
        dueNoParse("J;C:^;");
        dueNoParse("J;C:=^");
        dueNoParse("J;C:=^:");
        dueNoParse("J;C:=^~;");
        dueNoParse("J;Cr^e1 1:=;");
        dueNoParse("J;Cr^1 1:=;");
        dueNoParse("J;Cra^b1:=;");
        dueNoParse("J;Cra1^:=;");
        dueNoParse("J;Cra1^-1:=;");
        dueNoParse("J;Cra-^ 1 1:=;");
        dueNoParse("J;Cra1 111^1:=;");
        dueNoParse("J;Cra123456^7:=;");
        dueNoParse("J;Ch^-1:=;");
        dueNoParse("J;Ch^a:=;");
        dueNoParse("J;Ch1 ^1:=;");
        dueNoParse("J;CH^h1:=;");
        dueNoParse("J;Ck^1:=;");
        dueNoParse("J;C:^k=;");
        dueNoParse("J;C:a^=;");
        dueNoParse("J;C:a1^=;");
        dueNoParse("J;C:a1 1a2 2^e=;");
        dueNoParse("J;C:^e1 1=;");
        dueNoParse("J;C:a1 1=;C:a1^");
    }

    private static void parseLimits() {
        dueParse("Jdddddd;", 0);
        dueNoParse("Jdddddd^d;");
        dueNoParse("Jt1t2^t3;");
        dueNoParse("Jt1dt2d^t3;");
        dueParse("J;" + "C:=;".repeat(8), 8);
        dueNoParse("J;" + "C:=;".repeat(8) + " ^C:=;");
        dueParse("J;C" + "k".repeat(24) + ":=;", 1);
        dueNoParse("J;C" + "k".repeat(24) + "^x:=;");
        dueParse("J;C:" + "a1 1".repeat(16) + "=;", 1);
        dueNoParse("J;C:" + "a1 1".repeat(16) + "^a1 1=;");
        JobTests x = with("Jdd;C:=;Ck:=;");
        due("a text that cannot be read", parsed(x, "Js;C:=;C:=;C:=;x"), -25);
        due("it is empty", x.count(2), 0);
        due("steps stay", x.count(0), 2);
        due("cases stay", x.count(1), 2);
        due("the job stays", x.step(0, 0), 'd');
        due("events stay", x.event(1, 0, 0), 'k');
        due("nothing was typed", x.parse(), -10);
        due("another text", parsed(x, "Js;"), 0);
        due("other steps", x.count(0), 1);
        due("no cases", x.count(1), 0);
        due("a case of before", x.run(0), BAD);
    }

    private static void count() {
        sentence("4 count");
        JobTests x = with("Jf<1m+2q3dsw4;C:=;Cra1 1:=;");
        typeText(x, "J;C");
        dueList("count", new int[] {x.count(0), x.count(1), x.count(2), x.count(3)}, 6, 2, 3, 16);
        due("count -1", x.count(-1), BAD);
        due("count 4", x.count(4), BAD);
        due("mutants of t", with("Jt1t2;").count(3), 4);
        due("most mutants", with("Jf<1f=1f>1m+1m-1m/1;").count(3), 30);
    }

    private static void runVerdicts() {
        sentence("5 run: verdicts");
        JobTests x = with("J;C:=;");
        due("run -1", x.run(-1), BAD);
        due("run 1", x.run(1), BAD);
        dueVerdict("J;C:=;", 1);
        dueVerdict("J;Cra1 1:a1 1=;", 1);
        dueVerdict("J;Cra1 1:b1 1=;", 0);
        dueVerdict("J;Cra1 1:a2 1=;", 0);
        dueVerdict("J;Cra1 1:a1 2=;", 0);
        dueVerdict("J;Cra1 1:=;", 0);
        dueVerdict("J;C:a1 1=;", 0);
        dueVerdict("J;Cra1 1rb2 2:a1 1b2 2=;", 1);
        dueVerdict("J;Cra1 1rb2 2:b2 2a1 1=;", 0);
        dueVerdict("J;Cra1 1rb2 2:b2 2a1 1~;", 1);
        dueVerdict("J;Cra1 1rb2 2:b2 2b2 2~;", 0);
        dueVerdict("J;Cra1 1:a1 1a1 1~;", 0);
        dueVerdict("J;Cra1 1ra1 1:a1 1~;", 0);
        dueVerdict("Jq5;Cra0 1:=;", 2);
        dueVerdict("Jq5;Cra0 1:~;", 2);
        dueVerdict("Jq5;Cra0 1:a0 1=;", 2);
        dueVerdict("Jq5;Cra0 1:!;", 1);
        dueVerdict("Jq5;Cra0 1:a0 1!;", 0);
        dueVerdict("Jq5;Cra1 1:a5 1!;", 0);
        dueVerdict("Jq5;C:!;", 0);
        dueVerdict("Jq6;Cra2 1kra3 2ra0 3:a3 1!;", 1);
        dueVerdict("Jq6;Cra2 1kra3 2ra0 3:a3 1a2 2!;", 0);
        dueVerdict("Jq6;Cra2 1ra3 2kra0 3:a2 2a3 1!;", 0);
        dueVerdict("Jm/0;C:=;", 1);
        dueVerdict("Jm/0;Cra1 1:=;", 2);
    }

    private static void runSteps() {
        sentence("5 run: steps");
        dueVerdict("Jf<2;Cra1 1ra2 2ra3 3ra-5 4:a1 1a-5 4=;", 1);
        dueVerdict("Jf=2;Cra1 1ra2 2ra3 3:a2 2=;", 1);
        dueVerdict("Jf>2;Cra1 1ra2 2ra3 3:a3 3=;", 1);
        dueVerdict("Jm+5;Cra-7 1:a-2 1=;", 1);
        dueVerdict("Jm-5;Cra-7 1:a-12 1=;", 1);
        dueVerdict("Jm*-5;Cra7 1:a-35 1=;", 1);
        dueVerdict("Jm/2;Cra-7 1ra7 1:a-3 1a3 1=;", 1);
        dueVerdict("Jq7;Cra-2 1ra8 2:a-3 1a0 2=;", 1);
        dueVerdict("Jd;Cra1 1ra1 2rb1 3ra2 4Ra1 5:a1 1b1 3a2 4=;", 1);
        dueVerdict("Js;Cra1 1rb5 2Ra2 3ra-9 4:a1 1b5 2a3 3a-6 4=;", 1);
        dueVerdict("Jdd;Cra1 1ra1 1:a1 1=;", 1);
        dueVerdict("Jss;Cra1 1ra1 2ra1 3:a1 1a3 2a6 3=;", 1);
        dueVerdict("Jsd;Cra1 1ra-1 2ra1 3:a1 1a0 2=;", 1);
        JobTests wrapping = with("Jm*999m*999m*999m*999;Cra999 1:=;");
        due("ints wrap", wrapping.out(0, 0, 1), 999 * 999 * 999 * 999 * 999);
        JobTests least = with("Jm*512m*512m*16m/-1;Cra-512 1:=;");
        due("the least int by -1", least.out(0, 0, 1), Integer.MIN_VALUE);
        JobTests sums = with("Jm*512m*512m*8s;Cra512 1ra512 2:=;");
        due("a sum", sums.out(0, 0, 1), 1 << 30);
        due("sums wrap", sums.out(0, 1, 1), Integer.MIN_VALUE);
    }

    private static void runSpans() {
        sentence("5 run: spans");
        dueVerdict("Jw5;Cra7 0rb9 4ra8 4ra1 5h10:a2 4b1 4a1 9=;", 1);
        dueVerdict("Jw1;Cra7 3:a1 3=;", 1);
        dueVerdict("Jw5;Crb1 7ra1 7rb1 1:b1 4a1 9b1 9=;", 1);
        dueVerdict("Jw5;Ch4ra1 4:a1 4=;", 1);
        dueVerdict("Jw5;Ch5ra1 4ra1 5:a1 9=;", 1);
        dueVerdict("Jw5;Cra1 1h4kh5k:a1 4=;", 1);
        dueVerdict("Jw5;Cra1 1h5ra1 6h10:a1 4a1 9=;", 1);
        // the second w is not told W yet when the first one's rows come
        dueVerdict("Jw5w5;Cra1 1ra1 2h5:a1 4=;", 1);
        dueVerdict("Jw5s;Cra1 1ra1 2h5ra1 7:a2 4a3 9=;", 1);
        JobTests high = with("Jw999w998w997w996;Cra1 999:=;");
        due("a time above 999", high.out(0, 0, 2), 4979);
        JobTests last = with("Jw999w998w997w996w500;Cra1 999:=;");
        due("a span that ends at 5000 comes", last.out(0, 0, 2), 4999);
        dueVerdict("Jw999w998w997w996w995;Cra1 999:=;", 1);
    }

    private static void runTimers() {
        sentence("5 run: timers");
        dueVerdict("Jt3;Cra7 1:a7 1a0 4=;", 1);
        dueVerdict("Jt3;Cra7 1h3kh4rb1 9:a7 1a0 4b1 9b0 12=;", 1);
        dueVerdict("Jt3;Crb1 1ra2 1rc1 0:b1 1a2 1c1 0c0 3a0 4b0 4=;", 1);
        dueVerdict("Jt3;Cra1 1ra1 5h4h8:a1 1a1 5a0 8=;", 1);
        dueVerdict("Jt3;Cra1 9ra1 1h4rb1 1:a1 9a1 1a0 4b1 1b0 4=;", 1);
        // a timer that is set too late waits until W rises again
        dueVerdict("Jt3;Ch9ra1 1h9ra2 2h10:a1 1a2 2a0 5=;", 1);
        dueVerdict("Jt3t5;Cra1 1h4h9:a1 1a0 4a0 9=;", 1);
        dueVerdict("Jw5t3;Cra1 1h5:a1 4a0 7=;", 1);
        dueVerdict("Jt3w5;Cra1 1h5:a2 4=;", 1);
        dueVerdict("Jt3q6;Cra1 1:=;", 2);
    }

    private static void runWatermarks() {
        sentence("5 run: watermarks");
        dueVerdict("Jw5;Cra1 1h9Rb1 1H3ra1 4H9:a2 4b1 4=;", 1);
        dueVerdict("Jw5;Cra1 1h9Rb1 1ra1 4:a2 4b1 4=;", 1);
        dueVerdict("Jw5;Ch9h4ra1 4:=;", 1);
        dueVerdict("Jw5;CH9H4Ra1 4:=;", 1);
        dueVerdict("Jw5;CRa1 1H5Ra1 2:a1 4=;", 1);
        dueVerdict("Jw5;Ch9H9ra1 1:=;", 1);
        dueVerdict("Jw5;Ch9ra1 1H9:a1 4=;", 1);
        // W does not rise where only the greater watermark does
        dueVerdict("Jt3;Ch5H9ra1 1H99h5:a1 1a0 4=;", 1);
        dueVerdict("Jt3;Ch5H9ra1 1H99rb1 1h6:a1 1b1 1a0 4b0 4=;", 1);
        dueVerdict("Jw1;Ch0ra1 0:a1 0=;", 1);
        dueVerdict("Jw1;Ch1ra1 0:=;", 1);
        dueVerdict("Jw5;Ckx:=;", 1);
    }

    private static void runMarksAndFailures() {
        sentence("5 run: marks and failures");
        dueVerdict("J;Cra1 1kra1 2xra1 3:a1 1a1 2a1 3=;", 1);
        dueVerdict("J;Cra1 1xx:a1 1=;", 1);
        dueVerdict("Js;Cra1 1kra1 2xra1 3xk:a1 1a2 2a3 3=;", 1);
        dueVerdict("Jd;Cra1 1kra1 2rb1 2x:a1 1b1 2=;", 1);
        dueVerdict("Jt3;Cra1 1kra1 5xh9:a1 1a1 5a0 8=;", 1);
        dueVerdict("Jw5;Cra1 1kra1 2xra1 3h5x:a3 4=;", 1);
        dueVerdict("Jw5;Cra1 1h5kxra1 2:a1 4=;", 1);
        dueVerdict("Jq6;Cra1 1kra2 2xra0 3:a6 1!;", 1);
    }

    private static void ran() {
        sentence("6 ran");
        JobTests x = with("Jdm+1q6;Cra1 1ra2 2kra3 3ra-1 4ra9 9:=;Cra5 1:=;");
        dueList("ran 0", allOfRan(x, 0), 2, 0, 1, 2, 5);
        dueList("ran 1", allOfRan(x, 1), 1, 0, 0, NONE, 1);
        due("what -1", x.ran(0, -1), BAD);
        due("what 5", x.ran(0, 5), BAD);
        due("c -1", x.ran(-1, 0), BAD);
        due("c 2", x.ran(2, 0), BAD);
        dueList("zero at the end", allOfRan(with("Jw5m-1q6;Cra1 1k:=;"), 0), 0, 0, 1, 2, 2);
        dueList("the side is brought back", allOfRan(with("Jw5;Ch5ra1 1xra1 2:=;"), 0), 0, 2, 0, NONE, 6);
        dueList("failures", allOfRan(with("Js;Cra1 1ra1 2xx:=;"), 0), 2, 0, 0, NONE, 8);
        dueList("from the mark on", allOfRan(with("J;Cra1 1kra1 2xkx:=;"), 0), 2, 0, 0, NONE, 7);
        dueList("two sides", allOfRan(with("Jw5w2;Cra1 1rb1 7h8ra1 1:=;"), 0), 2, 1, 0, NONE, 4);
        dueList("nothing", allOfRan(with("J;C:=;"), 0), 0, 0, 0, NONE, 0);
        due("most outs", with("Jt1t2;C" + "ra1 1".repeat(24) + ":=;").ran(0, 0), 24 + 1 + 1);
        JobTests most = with("Jt1t1;C" + "ra1 1h999" + "ra1 1".repeat(22) + ":=;");
        due("many outs", most.ran(0, 0), 1 + 1 + 1 + 22 + 1 + 1);
    }

    private static void out() {
        sentence("7 out");
        JobTests x = with("Jm-9;Crd5 7Rb-3 999:=;C:a1 1=;");
        dueList("out 0", new int[] {x.out(0, 0, 0), x.out(0, 0, 1), x.out(0, 0, 2)}, 3, -4, 7);
        dueList("out 1", new int[] {x.out(0, 1, 0), x.out(0, 1, 1), x.out(0, 1, 2)}, 1, -12, 999);
        for (int what = 0; what < 3; what++) {
            due("out 2", x.out(0, 2, what), 0);
            due("out -1", x.out(0, -1, what), 0);
            due("out of another case", x.out(1, 0, what), 0);
        }
        due("what 3", x.out(0, 0, 3), BAD);
        due("what -1", x.out(0, 0, -1), BAD);
        due("what 3 of none", x.out(0, 9, 3), BAD);
        due("c 2", x.out(2, 0, 0), BAD);
        due("c -1", x.out(-1, -1, 0), BAD);
        due("the first case again", x.out(0, 1, 1), -12);
        JobTests held = with("Jq6;Cra1 1kra2 2ra0 3:=;");
        due("given out at the mark", held.out(0, 0, 1), 6);
        due("what was held is gone", held.out(0, 1, 1), 0);
    }

    private static void dueDifference(String text, int want) {
        due("difference(0) of " + text, with(text).difference(0), want);
    }

    private static void difference() {
        sentence("8 difference");
        dueDifference("J;C:=;", NONE);
        dueDifference("J;Cra1 1:a1 1=;", NONE);
        dueDifference("J;Cra1 1:b1 1=;", 0);
        dueDifference("J;Cra1 1rb2 2:a1 1=;", 1);
        dueDifference("J;Cra1 1:a1 1b2 2=;", 1);
        dueDifference("J;Cra1 1rb2 2rc3 3:a1 1b2 2c3 4=;", 2);
        dueDifference("J;Cra1 1rb2 2:b2 2a1 1=;", 0);
        dueDifference("J;Cra1 1rb2 2:b2 2a1 1~;", NONE);
        dueDifference("J;Crb2 2ra1 1:b2 2a1 2~;", 0);
        dueDifference("J;Crb2 2ra9 9:b2 3a9 9~;", 1);
        dueDifference("J;Crb3 1rb-5 1:b-5 1b4 1~;", 1);
        dueDifference("J;Cra1 9ra1 2:a1 2a1 8~;", 1);
        dueDifference("J;Crc1 9ra1 2rb1 3:c1 9b1 3~;", 0);
        dueDifference("Jq6;Cra1 1kra0 2:a6 1!;", NONE);
        dueDifference("Jq6;Cra1 1kra0 2:a6 1=;", NONE);
        dueDifference("Jq6;Cra1 1kra2 1ra0 2:a6 1a3 1!;", 1);
        JobTests x = with("J;C:=;");
        due("c 1", x.difference(1), BAD);
        due("c -1", x.difference(-1), BAD);
    }

    private static void schedules() {
        sentence("9 schedules");
        JobTests x = with("J;C:=;Ckx:=;Cra1 1kh1x:=;CRa1 1H1:=;Cra1 1Ra1 1:=;Ch1h2H1h3H2:=;Ch1H1h1:=;C"
            + "h1H1".repeat(12) + ":=;");
        dueList("nothing", allSchedules(x, 0), 1, 1, 1, 1);
        dueList("no rows", allSchedules(x, 1), 1, 1, 1, 1);
        dueList("two of A", allSchedules(x, 2), 1, 1, 1, 1);
        dueList("two of B", allSchedules(x, 3), 1, 1, 1, 1);
        dueList("one and one", allSchedules(x, 4), 0, 2, 2, 2);
        dueList("three and two", allSchedules(x, 5), 0, 2, 5, 9);
        dueList("two and one", allSchedules(x, 6), 0, 2, 3, 3);
        dueList("twelve and twelve", allSchedules(x, 7), 0, 2, 24, 266);
        due("s -1", x.schedules(0, -1), BAD);
        due("s 4", x.schedules(0, 4), BAD);
        due("c -1", x.schedules(-1, 0), BAD);
        due("c 8", x.schedules(8, 0), BAD);
    }

    private static void schedule() {
        sentence("10 schedule");
        JobTests x = with("J;Ch1kh2H1xh3H2:=;Ch1H1h2H2:=;C:=;Ch1h2:=;CH1H2H3:=;C" + "h1H1".repeat(12) + ":=;");
        int[] threeAndTwo = {24, 3, 6, 12, 17, 18, 20, 5, 9};
        for (int k = 0; k < 9; k++) {
            due("three and two, " + k, x.schedule(0, 3, k), threeAndTwo[k]);
            due("with two switches, " + k, x.schedule(0, 2, k), k < 5 ? threeAndTwo[k] : NONE);
        }
        int[] twoAndTwo = {12, 3, 6, 9, 10, 5};
        for (int k = 0; k < 6; k++) {
            due("two and two, " + k, x.schedule(1, 3, k), twoAndTwo[k]);
        }
        due("nine", x.schedule(0, 3, 9), NONE);
        due("k -1", x.schedule(0, 3, -1), NONE);
        due("without a switch", x.schedule(0, 0, 0), NONE);
        due("nothing", x.schedule(2, 0, 0), 0);
        due("nothing, 1", x.schedule(2, 3, 1), NONE);
        due("of A alone", x.schedule(3, 0, 0), 0);
        due("of B alone", x.schedule(4, 0, 0), 7);
        due("twelve and twelve", x.schedule(5, 1, 0), 0xfff000);
        due("the last of these", x.schedule(5, 3, 265), 2047 | 1 << 22);
        due("the first with three", x.schedule(5, 3, 24), 1 << 1 | 0x7ff << 13);
        due("behind the last", x.schedule(5, 3, 266), NONE);
        due("s 4", x.schedule(0, 4, 0), BAD);
        due("s -1", x.schedule(0, -1, 0), BAD);
        due("s -1, k -1", x.schedule(0, -1, -1), BAD);
        due("c 6", x.schedule(6, 0, 0), BAD);
        due("c -1", x.schedule(-1, 0, 0), BAD);
    }

    private static void equal() {
        sentence("11 equal");
        JobTests x = with("Js;Cra1 1Ra2 2:=;Ckx:=;CRa1 1Rb1 1:=;Cra1 1Ra1 1:=;");
        due("as it stands", x.equal(0, 2), 1);
        due("the other one", x.equal(0, 1), 0);
        due("none of B", x.equal(0, 0), BAD);
        due("two of B", x.equal(0, 3), BAD);
        due("an event that is not there", x.equal(0, 4), BAD);
        due("bits -1", x.equal(0, -1), BAD);
        due("the least int", x.equal(0, Integer.MIN_VALUE), BAD);
        due("nothing", x.equal(1, 0), 1);
        due("nothing, bits 1", x.equal(1, 1), BAD);
        due("of B alone", x.equal(2, 3), 1);
        due("of B alone, one less", x.equal(2, 1), BAD);
        due("the same rows", x.equal(3, 1), 1);
        due("c 4", x.equal(4, 0), BAD);
        due("c -1", x.equal(-1, 0), BAD);
        due("in any order", with("J;Cra1 1Rb2 2:=;").equal(0, 1), 1);
        due("both find zero", with("Jsq6;Cra1 1kRa-1 2:=;").equal(0, 1), 1);
        JobTests zero = with("Jsq6;Cra1 1Ra-1 2Ra5 3:=;Cra5 1Ra1 2Ra-1 3:=;");
        due("both find zero", zero.equal(0, 5), 1);
        due("only the plain one finds zero", zero.equal(0, 3), 0);
        due("only the other one finds zero", zero.equal(1, 3), 0);
        JobTests late = with("Jw5;Ch9Ra1 1H9:=;");
        due("late there", late.equal(0, 3), 1);
        due("marks and failures are none of it", with("Jsq6;Cra1 1kxRa1 2:=;").equal(0, 2), 1);
    }

    private static void failing() {
        sentence("12 failing");
        JobTests x = with("Js;Cra1 1Ra2 2:=;Cra1 1Ra2 2ra4 3Ra8 4:=;Cra1 1ra2 2:=;");
        due("two", x.failing(0, 1, 0), 1);
        due("no more", x.failing(0, 1, 1), NONE);
        due("none without a switch", x.failing(0, 0, 0), NONE);
        due("k -1", x.failing(0, 1, -1), NONE);
        due("s 4", x.failing(0, 4, 0), BAD);
        due("s -1", x.failing(0, -1, -1), BAD);
        due("c 3", x.failing(3, 0, 0), BAD);
        due("c -1", x.failing(-1, 0, 0), BAD);
        // of AABB BBAA ABBA BAAB ABAB BABA only ABAB is equal
        int[] places = {0, 1, 2, 3, 5};
        due("the last first", x.failing(1, 3, 4), 5);
        for (int k = 0; k < 5; k++) {
            due("four rows, " + k, x.failing(1, 3, k), places[k]);
            due("with two switches, " + k, x.failing(1, 2, k), k < 4 ? places[k] : NONE);
            due("with one switch, " + k, x.failing(1, 1, k), k < 2 ? places[k] : NONE);
        }
        due("no more of four rows", x.failing(1, 3, 5), NONE);
        due("of A alone", x.failing(2, 3, 0), NONE);
        JobTests many = with("Js;C" + "ra1 1Ra1 2".repeat(12) + ":=;");
        due("all but none of 266", many.failing(0, 3, 265), 265);
        due("no more of 266", many.failing(0, 3, 266), NONE);
    }

    private static void shuffle() {
        sentence("13 shuffle");
        JobTests x = with("J;Ch1H1kh2H2xh3h4h5:=;Ch1h2:=;CH1H2H3:=;C:=;Ch1H1:=;");
        int[] due = {40, 5, 96, 3, 6, 3, 20, 5, 24, 3};
        for (int i = 0; i < due.length; i++) {
            due("five and two, " + i, x.shuffle(0, 77777 * i), due[i]);
        }
        due("of A alone", x.shuffle(1, 7), 0);
        due("of B alone", x.shuffle(2, 7), 7);
        due("nothing", x.shuffle(3, 7), 0);
        for (int seed = -3; seed < 40; seed++) {
            int once = seed * 1103515245 + 12345;
            due("one and one, " + seed, x.shuffle(4, seed), (once & 65536) != 0 ? 1 : 2);
        }
        due("c 5", x.shuffle(5, 0), BAD);
        due("c -1", x.shuffle(-1, 0), BAD);
    }

    private static void dueLeft(String text, int... places) {
        JobTests x = with(text);
        due("shrink(0) of " + text, x.shrink(0), places.length);
        for (int i = 0; i < places.length; i++) {
            due("left(0, " + i + ") of " + text, x.left(0, i), places[i]);
        }
        due("left behind the last of " + text, x.left(0, places.length), NONE);
        due("left(0, -1) of " + text, x.left(0, -1), NONE);
    }

    private static void shrinkAndLeft() {
        sentence("14, 15 shrink and left");
        dueLeft("J;Cra1 1rb1 1:=;", 1);
        dueLeft("J;Cra1 1rb1 1:b1 1=;");
        dueLeft("J;C:a1 1=;");
        dueLeft("J;Cra1 1kxrb2 2:~;", 3);
        dueLeft("Jq6;Cra1 1kra0 2rb0 3x:=;", 3);
        dueLeft("Js q6;Cra1 1rb5 5kra-1 2ra3 3:~;", 0, 3);
        dueLeft("Jq6;Cra1 1:a6 1!;");
        // without H, B is not looked at, and the row is late; h goes first, then H
        dueLeft("Jw5;CH2h9ra1 1:=;", 2);
        dueLeft("Jw5f>1;Cra1 1h4rb1 1ra1 2h6:=;", 0, 3);
        JobTests x = with("J;Cra1 1rb2 2:=;Cra1 1:a1 1=;Cra1 1rb1 1rc1 1:=;");
        due("left ahead of shrink", x.left(0, 0), 1);
        due("verdict 1", x.shrink(1), NO);
        due("left of verdict 1", x.left(1, 0), NO);
        due("left of verdict 1, i -1", x.left(1, -1), NO);
        due("a third case", x.left(2, 0), 2);
        due("c 3", x.shrink(3), BAD);
        due("c -1", x.shrink(-1), BAD);
        due("left, c 3", x.left(3, 0), BAD);
        due("left, c -1", x.left(-1, -1), BAD);
        due("the case stays", x.event(0, 0, 0), 'r');
        due("its verdict stays", x.run(0), 0);
        due("its outs stay", x.ran(0, 0), 2);
    }

    private static void cover() {
        sentence("16 cover");
        JobTests x = with("Jf>1m*2s w5 t3;Cra2 1Ra3 2h4krb9 6H9xh20ra5 3:=;Cra1 1:~;");
        x.run(0);
        x.shrink(0);
        dueList("f", allOfCover(x, 0), 6, 5, 0, 0, 0);
        dueList("m", allOfCover(x, 1), 5, 5, 0, 0, 0);
        dueList("s", allOfCover(x, 2), 5, 5, 0, 0, 0);
        dueList("w", allOfCover(x, 3), 5, 2, 2, 1, 0);
        dueList("t", allOfCover(x, 4), 2, 4, 2, 0, 0);
        due("step 5", x.cover(5, 0), BAD);
        due("step -1", x.cover(-1, 0), BAD);
        due("what 5", x.cover(0, 5), BAD);
        due("what -1", x.cover(0, -1), BAD);
        JobTests zeros = with("Jdq6;Cra0 1ra1 2:=;Cra1 1ra1 1ra0 2:=;Cra2 2:=;");
        dueList("d", allOfCover(zeros, 0), 5, 4, 0, 0, 0);
        dueList("q", allOfCover(zeros, 1), 4, 2, 0, 0, 2);
        dueList("done again", allOfCover(with("Js;Cra1 1ra1 2xx:=;"), 0), 6, 6, 0, 0, 0);
        dueList("late again", allOfCover(with("Jw5;Ch5ra1 1xra1 2:=;"), 0), 3, 0, 0, 3, 0);
        dueList("by W again", allOfCover(with("Jt2;Cra1 1h3x:=;"), 0), 2, 4, 2, 0, 0);
        dueList("no cases", allOfCover(with("Jd;"), 0), 0, 0, 0, 0, 0);
        dueList("by 0", allOfCover(with("Jm/0;Cra1 1:=;Cra1 1:!;"), 0), 2, 0, 0, 0, 2);
    }

    private static void dueKillers(String text, int... howMany) {
        JobTests x = with(text);
        due("count(3) of " + text, x.count(3), howMany.length);
        for (int k = 0; k < howMany.length; k++) {
            due("mutant(" + k + ", 4) of " + text, x.mutant(k, 4), howMany[k]);
            if (howMany[k] == 0) {
                due("mutant(" + k + ", 3) of " + text, x.mutant(k, 3), NONE);
            }
        }
    }

    private static void mutant() {
        sentence("17 mutant");
        JobTests x = with("Jf=5m*2q7dst4;");
        int[] steps = {0, 0, 0, 0, 0, 1, 1, 1, 1, 1, 2, 2, 3, 4, 5, 5};
        int[] ways = {0, 1, 2, 3, 4, 0, 1, 2, 3, 4, 0, 1, 0, 0, 0, 1};
        int[] leftOut = {0, 0, 0, 0, 1, 0, 0, 0, 0, 1, 0, 1, 1, 1, 0, 1};
        for (int k = 0; k < 16; k++) {
            dueList("mutant " + k, new int[] {x.mutant(k, 0), x.mutant(k, 1), x.mutant(k, 2), x.mutant(k, 3),
                x.mutant(k, 4)}, steps[k], ways[k], leftOut[k], NONE, 0);
        }
        due("k 16", x.mutant(16, 0), BAD);
        due("k -1", x.mutant(-1, 0), BAD);
        due("what 5", x.mutant(0, 5), BAD);
        due("what -1", x.mutant(0, -1), BAD);
        // each mutant of f and m by rows that tell it from the others
        dueKillers("Jf<5;Cra5 1:=;", 1, 0, 1, 0, 1);
        dueKillers("Jf<5;Cra4 1:a4 1=;", 1, 1, 0, 1, 0);
        dueKillers("Jf=5;Cra4 1:=;", 1, 0, 0, 1, 1);
        dueKillers("Jf=5;Cra6 1:=;", 0, 1, 1, 0, 1);
        dueKillers("Jf>5;Cra5 1:=;", 0, 1, 0, 1, 1);
        dueKillers("Jf>5;Cra6 1:a6 1=;", 1, 1, 1, 0, 0);
        dueKillers("Jm+2;Cra2 1:a4 1=;", 1, 0, 1, 1, 1);
        dueKillers("Jm-2;Cra4 1:a2 1=;", 1, 1, 0, 1, 1);
        dueKillers("Jm*2;Cra2 1:a4 1=;", 0, 1, 1, 1, 1);
        dueKillers("Jm/2;Cra4 1:a2 1=;", 1, 0, 1, 1, 1);
        dueKillers("Jm*0;Cra0 1:a0 1=;", 0, 0, 1, 0, 0);
        dueKillers("Jq6;Cra2 1:a3 1=;", 0, 1);
        dueKillers("Jq6;Cra1 1:a6 1=;", 1, 1);
        dueKillers("Jq6;Cra0 1:!;", 0, 1);
        dueKillers("Jd;Cra1 1ra1 1:a1 1=;", 1);
        dueKillers("Js;Cra1 1:a1 1=;", 0);
        dueKillers("Js;Cra1 1ra1 1:a1 1a2 1=;", 1);
        dueKillers("Jw5;Cra1 1:a1 4=;", 1, 1);
        dueKillers("Jw5;Cra1 5ra1 1h5:a1 4a1 9~;", 1, 1);
        dueKillers("Jt5;Cra1 1:a1 1a0 6=;", 1, 1);
        dueKillers("Jt5;C:=;", 0, 0);
        JobTests two = with("Jf>1;Cra5 1:a5 2=;Cra5 1:a5 1=;Cra1 1ra2 2:a2 2=;Cra1 1ra2 2:a2 3=;");
        int[] first = {1, 1, 2, 2, 2};
        int[] howMany = {2, 2, 1, 1, 1};
        for (int k = 0; k < 5; k++) {
            due("the first one to kill " + k, two.mutant(k, 3), first[k]);
            due("how many kill " + k, two.mutant(k, 4), howMany[k]);
        }
        due("the job stays", two.step(0, 1), 1);
        due("its runs stay", two.run(2), 1);
    }

    private static void alone() {
        sentence("18 alone");
        JobTests x = with("Jf>1;Cra5 1:a5 2=;Cra5 1:a5 1=;Cra1 1ra2 2:a2 2=;");
        due("a case that fails", x.alone(0), 0);
        due("a case that kills with another", x.alone(1), 0);
        due("a case that kills alone", x.alone(2), 3);
        due("c 3", x.alone(3), BAD);
        due("c -1", x.alone(-1), BAD);
        due("one case", with("Jf>1;Cra5 1:a5 1=;").alone(0), 2);
        due("both", with("Js;Cra1 1ra1 1:a1 1a2 1=;Cra1 1ra1 1:a1 1a2 1=;").alone(0), 0);
    }

    private static void event() {
        sentence("19 event");
        JobTests x = with("J;C:=;Cra-12 3Rd999 0h7H008kxrb-0 9:=;");
        dueList("r", allOfEvent(x, 1, 0), 'r', 0, -12, 3);
        dueList("R", allOfEvent(x, 1, 1), 'R', 3, 999, 0);
        dueList("h", allOfEvent(x, 1, 2), 'h', NONE, 0, 7);
        dueList("H", allOfEvent(x, 1, 3), 'H', NONE, 0, 8);
        dueList("k", allOfEvent(x, 1, 4), 'k', NONE, 0, NONE);
        dueList("x", allOfEvent(x, 1, 5), 'x', NONE, 0, NONE);
        dueList("r again", allOfEvent(x, 1, 6), 'r', 1, 0, 9);
        due("i 7", x.event(1, 7, 0), BAD);
        due("i -1", x.event(1, -1, 0), BAD);
        due("what 4", x.event(1, 0, 4), BAD);
        due("what -1", x.event(1, 0, -1), BAD);
        due("no events", x.event(0, 0, 0), BAD);
        due("c 2", x.event(2, 0, 0), BAD);
        due("c -1", x.event(-1, 0, 0), BAD);
        dueList("a fourth digit stands for itself", allOfEvent(with("J;Crc-1234:=;"), 0, 0), 'r', 2, -123, 4);
    }

    private static void step() {
        sentence("20 step");
        JobTests x = with("Jf<-12m/3q-4dsw007;");
        dueList("f", allOfStep(x, 0), 'f', -12, '<');
        dueList("m", allOfStep(x, 1), 'm', 3, '/');
        dueList("q", allOfStep(x, 2), 'q', -4, 0);
        dueList("d", allOfStep(x, 3), 'd', 0, 0);
        dueList("s", allOfStep(x, 4), 's', 0, 0);
        dueList("w", allOfStep(x, 5), 'w', 7, 0);
        due("k 6", x.step(6, 0), BAD);
        due("k -1", x.step(-1, 0), BAD);
        due("what 3", x.step(0, 3), BAD);
        due("what -1", x.step(0, -1), BAD);
        JobTests other = with("Jf=1f>2m+3m-4m*5t999;");
        dueList("f=", allOfStep(other, 0), 'f', 1, '=');
        dueList("f>", allOfStep(other, 1), 'f', 2, '>');
        dueList("m+", allOfStep(other, 2), 'm', 3, '+');
        dueList("m-", allOfStep(other, 3), 'm', 4, '-');
        dueList("m*", allOfStep(other, 4), 'm', 5, '*');
        dueList("t", allOfStep(other, 5), 't', 999, 0);
    }

    /** Nothing that was found out about one text may stay for the next one. */
    private static void parsedAnew() {
        sentence("3 parse, anew");
        JobTests x = with("Js;Cra1 1Ra2 2:=;");
        askSome(x, 0, 1, 1, 2, 0);
        due("another text", parsed(x, "Jm*0;Cra1 1Ra2 2ra3 3:a0 1a0 2a0 3=;"), 1);
        askSome(x, 1, NONE, NO, 3, 5);
        due("a text that cannot be read", parsed(x, "Js;C"), -14);
        askSome(x, 1, NONE, NO, 3, 5);
        due("the first text", parsed(x, "Js;Cra1 1Ra2 2:=;"), 1);
        askSome(x, 0, 1, 1, 2, 0);
    }

    private static void askSome(JobTests x, int verdict, int failing, int shrink, int came, int alone) {
        due("run", x.run(0), verdict);
        due("failing", x.failing(0, 3, 0), failing);
        due("shrink", x.shrink(0), shrink);
        due("left", x.left(0, 0), shrink == NO ? NO : 1);
        due("cover", x.cover(0, 0), came);
        due("alone", x.alone(0), alone);
        due("out", x.out(0, 1, 1), verdict == 0 ? 3 : 0);
    }
}
