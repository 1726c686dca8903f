import java.util.function.ToIntFunction;

/**
 * What tests by hand share: which sentence of the document is tested, texts that are typed, answers that are due.
 * A test program extends it, so that these can be called by their plain names.
 */
abstract class Check {
    static final int BAD = -1;
    static final int NO = -2;
    static final int NONE = -3;
    static final int LEAST = Integer.MIN_VALUE;
    static final int GREATEST = Integer.MAX_VALUE;

    private static int wrong = 0;
    private static int answers = 0;
    private static String sentence = "";

    /** The words of the document that the answers from here on are due by. */
    static void sentence(String words) {
        sentence = words;
    }

    static void due(String call, int got, int want) {
        dueText(call, String.valueOf(got), String.valueOf(want));
    }

    static void dueText(String call, String got, String want) {
        answers++;
        if (!got.equals(want)) {
            wrong++;
            System.out.println(sentence + ": " + call + " answered " + got + ", due is " + want);
        }
    }

    static void dueList(String call, int[] got, int... want) {
        due(call + ": how many", got.length, want.length);
        for (int i = 0; i < want.length && i < got.length; i++) {
            due(call + " " + i, got[i], want[i]);
        }
    }

    static void end() {
        System.out.println(wrong == 0 ? "all " + answers + " answers are as due" : wrong + " answers are not as due");
        if (wrong != 0) {
            System.exit(1);
        }
    }

    /** Signs as type wants them: the lowest byte first. */
    static long signsOf(String text) {
        long signs = 0;
        for (int i = 0; i < text.length(); i++) {
            signs |= (long) text.charAt(i) << (8 * i);
        }
        return signs;
    }

    static void typeText(JobTests x, String text) {
        int before = x.count(2);
        for (int at = 0; at < text.length(); at += 8) {
            int end = Math.min(at + 8, text.length());
            due("type of " + text, x.type(signsOf(text.substring(at, end)), end - at), before + end);
        }
    }

    static int parsed(JobTests x, String text) {
        typeText(x, text);
        return x.parse();
    }

    /** An object that has parsed a text which can be parsed. */
    static JobTests with(String text) {
        JobTests x = new JobTests();
        int answer = parsed(x, text);
        if (answer < 0) {
            due("parse() of " + text, answer, 0);
        }
        return x;
    }

    static void dueParse(String text, int want) {
        due("parse() of '" + text + "'", parsed(new JobTests(), text), want);
    }

    /** The text cannot be parsed: the place is that of the sign behind the first ^, which is not typed. */
    static void dueNoParse(String textWithPlace) {
        int place = textWithPlace.indexOf('^');
        dueParse(textWithPlace.substring(0, place) + textWithPlace.substring(place + 1), -10 - place);
    }

    static void dueVerdict(String text, int want) {
        due("run(0) of " + text, with(text).run(0), want);
    }

    /** What a job gives out for the events of a case, such as "a1 4, b0 7". */
    static void dueOuts(String steps, String events, String outs) {
        String text = "J" + steps + ";C" + events + ":=;";
        dueText("outs of " + text, outsOf(with(text), 0), outs);
    }

    static String outsOf(JobTests x, int c) {
        StringBuilder all = new StringBuilder();
        int size = x.ran(c, 0);
        for (int i = 0; i < size; i++) {
            all.append(i == 0 ? "" : ", ").append("abcd".charAt(x.out(c, i, 0)));
            all.append(x.out(c, i, 1)).append(' ').append(x.out(c, i, 2));
        }
        return all.toString();
    }

    /** A case is asked for that is not there. */
    static void dueBadCase(String call, int cases, ToIntFunction<Integer> ask) {
        for (int c : new int[] {LEAST, -1, cases, cases + 1, 8, GREATEST}) {
            due(call + " of case " + c, ask.applyAsInt(c), BAD);
        }
    }

    /** Most of what can be asked, of few steps and cases in less than half of the calls of an object. */
    static String stateOf(JobTests x) {
        StringBuilder all = new StringBuilder("counts");
        tell(all, all(4, x::count));
        for (int k = 0; k < x.count(0); k++) {
            tell(all.append("; step"), allOfStep(x, k));
            tell(all.append(" cover"), allOfCover(x, k));
        }
        for (int k = 0; k < x.count(3); k += 3) {
            tell(all.append("; mutant"), allOfMutant(x, k));
        }
        for (int c = 0; c < x.count(1); c++) {
            int test = c;
            tell(all.append("; case"), x.run(c), x.difference(c), x.shrink(c), x.left(c, 0), x.alone(c));
            tell(all.append(" ran"), allOfRan(x, c));
            all.append(" outs ").append(outsOf(x, c));
            tell(all.append(" schedules"), x.schedules(c, 3), x.schedule(c, 3, 0), x.failing(c, 3, 0), x.shuffle(c, 5));
            tell(all.append(" events"), all(4, i -> x.event(test, i, 0)));
        }
        return all.toString();
    }

    static void tell(StringBuilder all, int... numbers) {
        for (int number : numbers) {
            all.append(' ').append(number);
        }
    }

    static int[] allOfRan(JobTests x, int c) {
        return all(5, what -> x.ran(c, what));
    }

    static int[] allOfCover(JobTests x, int step) {
        return all(5, what -> x.cover(step, what));
    }

    static int[] allOfMutant(JobTests x, int k) {
        return all(5, what -> x.mutant(k, what));
    }

    static int[] allOfEvent(JobTests x, int c, int i) {
        return all(4, what -> x.event(c, i, what));
    }

    static int[] allOfStep(JobTests x, int k) {
        return all(3, what -> x.step(k, what));
    }

    static int[] allSchedules(JobTests x, int c) {
        return all(4, s -> x.schedules(c, s));
    }

    static int[] all(int n, ToIntFunction<Integer> ask) {
        int[] answered = new int[n];
        for (int i = 0; i < n; i++) {
            answered[i] = ask.applyAsInt(i);
        }
        return answered;
    }
}
