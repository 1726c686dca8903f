import java.util.function.ToIntFunction;

/** Each call that is refused, and each that only asks: all else that can be asked stays as it was. */
public final class RefusedTests extends Check {
    private static final String TEXT = "Jf<9st3;Cra1 1Ra2 2h5:a1 1a3 2a0 5=;Ckrb1 1xrb9 2:=;";
    private static final String BEGUN = "Jq5;C:";

    public static void main(String[] args) {
        state();
        type();
        typeInAFullText();
        parse();
        wrongCases();
        wrongWhats();
        wrongPlaces();
        wrongSwitches();
        wrongBits();
        verdictOne();
        goodQuestions();
        newObject();
        end();
    }

    /** An object with a job, two cases and a text that has begun. */
    private static JobTests begun() {
        JobTests x = with(TEXT);
        typeText(x, BEGUN);
        return x;
    }

    /** The call answers so on an object that has answered nothing yet, and on one that has; both stay as they were. */
    private static void dueStays(String call, ToIntFunction<JobTests> ask, int want) {
        JobTests x = begun();
        due(call, ask.applyAsInt(x), want);
        dueText("state behind " + call, stateOf(x), stateOf(begun()));
        due(call + " again", ask.applyAsInt(x), want);
        dueText("state behind " + call + " again", stateOf(x), stateOf(begun()));
        typeText(x, "=;");
        due("the text that had begun, behind " + call, x.parse(), 1);
        due("its step", x.step(0, 0), 'q');
    }

    private static void state() {
        sentence("the state itself");
        dueText("state", stateOf(begun()), "counts 3 2 6 8;"
            + " step 102 9 60 cover 5 4 0 0 0; step 115 0 0 cover 4 4 0 0 0; step 116 3 0 cover 4 6 2 0 0;"
            + " mutant 0 0 0 0 1; mutant 0 3 0 -3 0; mutant 2 0 0 0 1;"
            + " case 1 -3 -2 -2 5 ran 3 0 0 -3 3 outs a1 1, a3 2, a0 5 schedules 3 4 1 1 events 114 82 104 -1;"
            + " case 0 0 1 1 0 ran 2 0 0 -3 5 outs b1 1, b0 4 schedules 1 0 -3 0 events 107 114 120 114");
    }

    private static void type() {
        sentence("2 BAD: n; one is no sign");
        for (int n : new int[] {LEAST, -1, 0, 9, GREATEST}) {
            dueStays("type(signs, " + n + ")", x -> x.type(0x4141414141414141L, n), BAD);
        }
        for (int sign : new int[] {0, 10, 31, 127, 128, 255}) {
            dueStays("type(" + sign + ", 1)", x -> x.type(sign, 1), BAD);
            dueStays("type of eight, the last is " + sign, x -> x.type(signsOf("ABCDEFG") | (long) sign << 56, 8), BAD);
            dueStays("type of two, the first is " + sign, x -> x.type('A' << 8 | sign, 2), BAD);
        }
    }

    private static void typeInAFullText() {
        sentence("2 NO: it would have more than 500");
        JobTests x = with(TEXT);
        typeText(x, BEGUN + " ".repeat(492 - BEGUN.length()) + "a");
        String before = stateOf(x);
        due("eight more", x.type(signsOf("12345678"), 8), NO);
        dueText("state behind it", stateOf(x), before);
        due("seven more", x.type(signsOf("1 1~;  "), 7), 500);
        due("one more", x.type(' ', 1), NO);
        due("a full text", x.count(2), 500);
        due("what was refused is not in it", x.parse(), 1);
    }

    private static void parse() {
        sentence("3 JOB and CASES stay");
        for (String text : new String[] {"", "J", "J;C", "Jq5;C:=;C:=;?", "Jw0;", "Jddddddd;", "?"}) {
            JobTests x = with(TEXT);
            String before = stateOf(x);
            due("parse of '" + text + "' is refused", parsed(x, text) <= -10 ? 1 : 0, 1);
            dueText("state behind parse of '" + text + "'", stateOf(x), before);
            JobTests fresh = with(TEXT);
            parsed(fresh, text);
            dueText("state asked for the first time behind parse of '" + text + "'", stateOf(fresh), before);
        }
    }

    private static void wrongCases() {
        sentence("BAD -1 (no such thing): a CASE");
        for (int c : new int[] {LEAST, -1, 2, 8, GREATEST}) {
            dueStays("run(" + c + ")", x -> x.run(c), BAD);
            dueStays("ran(" + c + ", 0)", x -> x.ran(c, 0), BAD);
            dueStays("out(" + c + ", 0, 0)", x -> x.out(c, 0, 0), BAD);
            dueStays("difference(" + c + ")", x -> x.difference(c), BAD);
            dueStays("schedules(" + c + ", 0)", x -> x.schedules(c, 0), BAD);
            dueStays("schedule(" + c + ", 0, 0)", x -> x.schedule(c, 0, 0), BAD);
            dueStays("equal(" + c + ", 0)", x -> x.equal(c, 0), BAD);
            dueStays("failing(" + c + ", 0, 0)", x -> x.failing(c, 0, 0), BAD);
            dueStays("shuffle(" + c + ", 0)", x -> x.shuffle(c, 0), BAD);
            dueStays("shrink(" + c + ")", x -> x.shrink(c), BAD);
            dueStays("left(" + c + ", 0)", x -> x.left(c, 0), BAD);
            dueStays("alone(" + c + ")", x -> x.alone(c), BAD);
            dueStays("event(" + c + ", 0, 0)", x -> x.event(c, 0, 0), BAD);
        }
    }

    private static void wrongWhats() {
        sentence("BAD -1 (a number that is not as told): what");
        for (int what : new int[] {LEAST, -1, 5, GREATEST}) {
            dueStays("count(" + what + ")", x -> x.count(what), BAD);
            dueStays("ran(0, " + what + ")", x -> x.ran(0, what), BAD);
            dueStays("out(0, 0, " + what + ")", x -> x.out(0, 0, what), BAD);
            dueStays("cover(0, " + what + ")", x -> x.cover(0, what), BAD);
            dueStays("mutant(0, " + what + ")", x -> x.mutant(0, what), BAD);
            dueStays("event(0, 0, " + what + ")", x -> x.event(0, 0, what), BAD);
            dueStays("step(0, " + what + ")", x -> x.step(0, what), BAD);
        }
        dueStays("count(4)", x -> x.count(4), BAD);
        dueStays("out(0, 0, 3)", x -> x.out(0, 0, 3), BAD);
        dueStays("event(0, 0, 4)", x -> x.event(0, 0, 4), BAD);
        dueStays("step(0, 3)", x -> x.step(0, 3), BAD);
    }

    private static void wrongPlaces() {
        sentence("BAD -1 (no such thing), NONE, 0: a place");
        for (int i : new int[] {LEAST, -1, 30, GREATEST}) {
            dueStays("out(0, " + i + ", 1)", x -> x.out(0, i, 1), 0);
            dueStays("schedule(0, 3, " + i + ")", x -> x.schedule(0, 3, i), NONE);
            dueStays("failing(0, 3, " + i + ")", x -> x.failing(0, 3, i), NONE);
            dueStays("left(1, " + i + ")", x -> x.left(1, i), NONE);
            dueStays("cover(" + i + ", 0)", x -> x.cover(i, 0), BAD);
            dueStays("mutant(" + i + ", 0)", x -> x.mutant(i, 0), BAD);
            dueStays("event(0, " + i + ", 0)", x -> x.event(0, i, 0), BAD);
            dueStays("step(" + i + ", 0)", x -> x.step(i, 0), BAD);
        }
        dueStays("out(0, 3, 1)", x -> x.out(0, 3, 1), 0);
        dueStays("schedule(0, 3, 3)", x -> x.schedule(0, 3, 3), NONE);
        dueStays("failing(0, 3, 2)", x -> x.failing(0, 3, 2), NONE);
        dueStays("left(1, 1)", x -> x.left(1, 1), NONE);
        dueStays("cover(3, 0)", x -> x.cover(3, 0), BAD);
        dueStays("mutant(8, 0)", x -> x.mutant(8, 0), BAD);
        dueStays("event(0, 3, 0)", x -> x.event(0, 3, 0), BAD);
        dueStays("step(3, 0)", x -> x.step(3, 0), BAD);
    }

    private static void wrongSwitches() {
        sentence("BAD -1 (a number that is not as told): s (0 .. 3)");
        for (int s : new int[] {LEAST, -1, 4, GREATEST}) {
            dueStays("schedules(0, " + s + ")", x -> x.schedules(0, s), BAD);
            dueStays("schedule(0, " + s + ", 0)", x -> x.schedule(0, s, 0), BAD);
            dueStays("failing(0, " + s + ", 0)", x -> x.failing(0, s, 0), BAD);
        }
    }

    private static void wrongBits() {
        sentence("11 BAD: also BITS that are none of the CASE");
        for (int bits : new int[] {LEAST, -1, 0, 3, 8, 9, GREATEST}) {
            dueStays("equal(0, " + bits + ")", x -> x.equal(0, bits), BAD);
        }
    }

    private static void verdictOne() {
        sentence("14, 15 NO: its VERDICT is 1");
        dueStays("shrink(0)", x -> x.shrink(0), NO);
        for (int i : new int[] {LEAST, -1, 0, 1, GREATEST}) {
            dueStays("left(0, " + i + ")", x -> x.left(0, i), NO);
        }
    }

    private static void goodQuestions() {
        sentence("calls that only ask change nothing");
        dueStays("run(1)", x -> x.run(1), 0);
        dueStays("ran(1, 4)", x -> x.ran(1, 4), 5);
        dueStays("out(1, 1, 2)", x -> x.out(1, 1, 2), 4);
        dueStays("difference(1)", x -> x.difference(1), 0);
        dueStays("schedules(0, 2)", x -> x.schedules(0, 2), 3);
        dueStays("schedule(0, 2, 2)", x -> x.schedule(0, 2, 2), 2);
        dueStays("equal(0, 2)", x -> x.equal(0, 2), 1);
        dueStays("equal(0, 1)", x -> x.equal(0, 1), 0);
        dueStays("failing(0, 3, 0)", x -> x.failing(0, 3, 0), 1);
        dueStays("shuffle(0, -1)", x -> x.shuffle(0, -1), 1);
        dueStays("shrink(1)", x -> x.shrink(1), 1);
        dueStays("left(1, 0)", x -> x.left(1, 0), 1);
        dueStays("cover(2, 2)", x -> x.cover(2, 2), 2);
        dueStays("mutant(7, 4)", x -> x.mutant(7, 4), 1);
        dueStays("alone(0)", x -> x.alone(0), 5);
    }

    private static void newObject() {
        sentence("1 No TEXT; a JOB without STEPS, no CASES (as long as nothing is parsed)");
        JobTests x = new JobTests();
        String before = stateOf(x);
        dueText("a new object", before, "counts 0 0 0 0");
        due("no text", x.parse(), -10);
        due("no sign", x.type(0, 1), BAD);
        due("a wrong text", parsed(x, "Jd;C:=;?"), -17);
        dueText("behind calls that were refused", stateOf(x), before);
        due("another object's text", with(TEXT).count(0), 3);
        dueText("behind calls to another object", stateOf(x), before);
    }
}
