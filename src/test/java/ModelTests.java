import java.util.Random;

/** Random texts and random calls, each answered by the class and by the model; the seeds are always the same. */
public final class ModelTests {
    private static final int CALLS = 512;

    private static int wrong = 0;

    private final Random luck;
    private final JobTests x = new JobTests();
    private final Model model = new Model();
    private final StringBuilder log = new StringBuilder();
    private final int seed;
    private int calls = 0;

    private ModelTests(int seed) {
        this.seed = seed;
        luck = new Random(seed);
    }

    public static void main(String[] args) {
        int rounds = args.length > 0 ? Integer.parseInt(args[0]) : 1500;
        for (int seed = 0; seed < rounds && wrong < 20; seed++) {
            new ModelTests(seed).askAll();
        }
        System.out.println(wrong == 0 ? "all answers are the model's" : wrong + " answers are not the model's");
        if (wrong != 0) {
            System.exit(1);
        }
    }

    private void askAll() {
        int texts = 1 + luck.nextInt(3);
        for (int t = 0; t < texts; t++) {
            String text = luck.nextInt(12) == 0 ? anyText() : luck.nextInt(8) == 0 ? spoilt(text()) : text();
            typeAll(text);
            due("parse()", x.parse(), model.parse());
            int some = Math.min(CALLS - 140, calls + 120);
            while (calls < some) {
                askOne();
            }
        }
    }

    private void due(String call, int got, int want) {
        calls++;
        if (got != want) {
            wrong++;
            System.out.println("seed " + seed + ", call " + calls + ": " + call + " answered " + got + ", due is "
                + want + "; typed: " + log);
        }
    }

    private void typeAll(String text) {
        log.append(" [").append(text).append(']');
        int at = 0;
        while (at < text.length()) {
            int n = Math.min(text.length() - at, luck.nextInt(4) == 0 ? 1 + luck.nextInt(8) : 8);
            // what stands above the n signs is not looked at
            long signs = luck.nextInt(4) == 0 && n < 8 ? luck.nextLong() << (8 * n) : 0;
            for (int i = 0; i < n; i++) {
                signs |= (long) text.charAt(at + i) << (8 * i);
            }
            due("type(" + signs + ", " + n + ")", x.type(signs, n), model.type(signs, n));
            at += n;
        }
        due("count(2)", x.count(2), model.count(2));
    }

    // ---- texts

    private String pick(String from) {
        return String.valueOf(from.charAt(luck.nextInt(from.length())));
    }

    private String blank() {
        return luck.nextInt(12) == 0 ? " ".repeat(1 + luck.nextInt(2)) : "";
    }

    private String small() {
        int kind = luck.nextInt(10);
        int value = kind == 0 ? luck.nextInt(1000) : kind < 3 ? luck.nextInt(30) : luck.nextInt(5);
        return (luck.nextInt(4) == 0 ? "-" : "") + value + " ";
    }

    private String time() {
        return (luck.nextInt(12) == 0 ? luck.nextInt(1000) : luck.nextInt(24)) + " ";
    }

    private String step(boolean timerMayCome) {
        String sign = pick(timerMayCome ? "fmmqdswwtt" : "fmmqdsww");
        switch (sign) {
            case "f": return sign + blank() + pick("<=>") + blank() + small();
            case "m": return sign + blank() + pick("+-*/") + small();
            case "q": return sign + small();
            case "w":
            case "t": return sign + (1 + (luck.nextInt(9) == 0 ? luck.nextInt(999) : luck.nextInt(9)));
            default: return sign;
        }
    }

    private String event(int lean) {
        String sign = pick(lean == 0 ? "rrrRRRhHkx" : lean == 1 ? "rrrrhhhkx" : lean == 2 ? "rRhH" : "rRhHkxkx");
        switch (sign) {
            case "r":
            case "R": return sign + blank() + pick(luck.nextBoolean() ? "ab" : "abcd") + small() + time();
            case "h":
            case "H": return sign + time();
            default: return sign + blank();
        }
    }

    private String steps() {
        StringBuilder job = new StringBuilder();
        int timers = 0;
        int steps = luck.nextInt(7);
        for (int k = 0; k < steps; k++) {
            String step = step(timers < 2);
            timers += step.startsWith("t") ? 1 : 0;
            job.append(blank()).append(step);
        }
        return job.toString();
    }

    /** A job and cases, most of which tell what the model says that comes, or something near it. */
    private String text() {
        String job = "J" + steps() + blank() + ";";
        StringBuilder all = new StringBuilder(job);
        int cases = luck.nextInt(6) == 0 ? 8 : 1 + luck.nextInt(4);
        for (int c = 0; c < cases; c++) {
            String test = testCase(job);
            if (all.length() + test.length() <= 500) {
                all.append(test);
            }
        }
        return all.toString();
    }

    private String testCase(String job) {
        StringBuilder test = new StringBuilder("C").append(blank());
        int events = luck.nextInt(9) == 0 ? 24 : luck.nextInt(12);
        int lean = luck.nextInt(4);
        for (int i = 0; i < events; i++) {
            test.append(event(lean));
        }
        Model one = new Model();
        one.text.append(job).append(test).append(":=;");
        one.parse();
        int outs = one.ran(0, 0);
        boolean zero = one.ran(0, 2) == 1;
        test.append(':');
        if (luck.nextInt(5) > 0 && outs <= 16) {
            boolean turned = luck.nextInt(4) == 0;
            for (int i = 0; i < outs; i++) {
                test.append(told(one, turned ? outs - 1 - i : i));
            }
        }
        String order = zero && luck.nextInt(3) > 0 ? "!" : luck.nextInt(9) == 0 ? "!" : pick("=~");
        return test.append(blank()).append(order).append(";").toString();
    }

    private String told(Model one, int i) {
        int value = one.out(0, i, 1) + (luck.nextInt(20) == 0 ? 1 : 0);
        int time = one.out(0, i, 2);
        if (value > 999 || value < -999 || time > 999) {
            return "";
        }
        return "abcd".charAt(one.out(0, i, 0)) + String.valueOf(value) + " " + time + " ";
    }

    private String spoilt(String text) {
        StringBuilder other = new StringBuilder(text);
        int at = luck.nextInt(text.length());
        switch (luck.nextInt(4)) {
            case 0 -> other.deleteCharAt(at);
            case 1 -> other.setCharAt(at, (char) (32 + luck.nextInt(95)));
            case 2 -> other.insert(at, pick("0123456789 -;:=abcdrRhHkxCJfmqdswt"));
            default -> other.setLength(at);
        }
        return other.substring(0, Math.min(other.length(), 500));
    }

    private String anyText() {
        StringBuilder any = new StringBuilder(luck.nextBoolean() ? "J" : "J;C");
        int n = luck.nextInt(20);
        for (int i = 0; i < n; i++) {
            any.append(pick("0123 -;:=~!abrRhHkxCJfmqdswt<>+*/"));
        }
        return any.toString();
    }

    // ---- calls

    /** A number below a bound, now and then one outside, near or far. */
    private int about(int bound) {
        if (luck.nextInt(60) == 0) {
            return luck.nextBoolean() ? Integer.MAX_VALUE : Integer.MIN_VALUE;
        }
        return luck.nextInt(10) == 0 ? luck.nextInt(bound + 4) - 2 : luck.nextInt(Math.max(1, bound));
    }

    private void askOne() {
        int c = about(model.cases.size());
        switch (luck.nextInt(18)) {
            case 0 -> askCount();
            case 1 -> due("run(" + c + ")", x.run(c), model.run(c));
            case 2 -> askRan(c);
            case 3, 4 -> askOut(c);
            case 5 -> due("difference(" + c + ")", x.difference(c), model.difference(c));
            case 6, 7, 8 -> askSchedules(c);
            case 9 -> askShuffle(c);
            case 10 -> due("shrink(" + c + ")", x.shrink(c), model.shrink(c));
            case 11 -> askLeft(c);
            case 12 -> askCover();
            case 13, 14 -> askMutant();
            case 15 -> due("alone(" + c + ")", x.alone(c), model.alone(c));
            case 16 -> askEvent(c);
            default -> askStep();
        }
    }

    private void askCount() {
        int what = about(4);
        due("count(" + what + ")", x.count(what), model.count(what));
    }

    private void askRan(int c) {
        int what = about(5);
        due("ran(" + c + ", " + what + ")", x.ran(c, what), model.ran(c, what));
    }

    private void askOut(int c) {
        int i = about(Math.max(1, model.ran(c, 0)));
        int what = about(3);
        due("out(" + c + ", " + i + ", " + what + ")", x.out(c, i, what), model.out(c, i, what));
    }

    private void askSchedules(int c) {
        boolean many = c >= 0 && c < model.cases.size() && model.cases.get(c).events().size() > 12;
        if (many) {
            // too many numbers for the model to try each time
            int bits = x.shuffle(c, luck.nextInt());
            due("equal(" + c + ", " + bits + ")", x.equal(c, bits), model.equal(c, bits));
            return;
        }
        int s = about(4);
        int most = Math.max(1, model.schedules(c, s));
        int k = about(most);
        switch (luck.nextInt(4)) {
            case 0 -> due("schedules(" + c + ", " + s + ")", x.schedules(c, s), model.schedules(c, s));
            case 1 -> due("schedule(" + c + ", " + s + ", " + k + ")", x.schedule(c, s, k), model.schedule(c, s, k));
            case 2 -> {
                int bits = luck.nextBoolean() ? model.schedule(c, s, k) : luck.nextInt(64) - 1;
                due("equal(" + c + ", " + bits + ")", x.equal(c, bits), model.equal(c, bits));
            }
            default -> {
                int few = luck.nextBoolean() ? about(3) : k;
                due("failing(" + c + ", " + s + ", " + few + ")", x.failing(c, s, few), model.failing(c, s, few));
            }
        }
    }

    private void askShuffle(int c) {
        int by = luck.nextBoolean() ? luck.nextInt() : luck.nextInt(100);
        due("shuffle(" + c + ", " + by + ")", x.shuffle(c, by), model.shuffle(c, by));
    }

    private void askLeft(int c) {
        int i = about(Math.max(1, model.shrink(c)));
        due("left(" + c + ", " + i + ")", x.left(c, i), model.left(c, i));
    }

    private void askCover() {
        int k = about(model.job.size());
        int what = about(5);
        due("cover(" + k + ", " + what + ")", x.cover(k, what), model.cover(k, what));
    }

    private void askMutant() {
        int k = about(model.count(3));
        int what = about(5);
        due("mutant(" + k + ", " + what + ")", x.mutant(k, what), model.mutant(k, what));
    }

    private void askEvent(int c) {
        boolean there = c >= 0 && c < model.cases.size();
        int i = about(there ? model.cases.get(c).events().size() : 3);
        int what = about(4);
        due("event(" + c + ", " + i + ", " + what + ")", x.event(c, i, what), model.event(c, i, what));
    }

    private void askStep() {
        int k = about(model.job.size());
        int what = about(3);
        due("step(" + k + ", " + what + ")", x.step(k, what), model.step(k, what));
    }
}
