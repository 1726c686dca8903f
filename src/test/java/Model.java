import java.util.ArrayList;
import java.util.Arrays;
import java.util.Collections;
import java.util.Comparator;
import java.util.HashMap;
import java.util.HashSet;
import java.util.List;
import java.util.Map;
import java.util.Set;
import java.util.TreeMap;
import java.util.regex.Matcher;
import java.util.regex.Pattern;

/**
 * The document once more, written as slowly and as differently as it goes: every answer is worked out anew, schedules
 * are sought among all numbers, a failure only repeats what the events since the mark have counted.
 */
final class Model {
    static final int BAD = -1;
    static final int NO = -2;
    static final int NONE = -3;

    record Row(int key, int value, int time) { }

    record Step(char sign, char act, int number) { }

    record Event(char sign, int key, int value, int time) {
        boolean isOfA() {
            return sign == 'r' || sign == 'h';
        }

        boolean isOfB() {
            return sign == 'R' || sign == 'H';
        }
    }

    record Case(List<Event> events, List<Row> told, char order) { }

    private static final Comparator<Row> BY_ALL =
        Comparator.comparingInt(Row::key).thenComparingInt(Row::value).thenComparingInt(Row::time);

    final StringBuilder text = new StringBuilder();
    List<Step> job = List.of();
    List<Case> cases = List.of();

    // ---- the text

    int type(long signs, int n) {
        if (n < 1 || n > 8) {
            return BAD;
        }
        String more = "";
        for (int i = 0; i < n; i++) {
            long sign = (signs >> (8 * i)) & 0xff;
            if (sign < 32 || sign > 126) {
                return BAD;
            }
            more += (char) sign;
        }
        if (text.length() + n > 500) {
            return NO;
        }
        return text.append(more).length();
    }

    int parse() {
        Parser parser = new Parser(text.toString());
        text.setLength(0);
        if (!parser.parse()) {
            return -10 - parser.at;
        }
        job = parser.steps;
        cases = parser.cases;
        return cases.size();
    }

    /** Works off a list of things that are still wanted. */
    private static final class Parser {
        final String text;
        int at = 0;
        final List<Step> steps = new ArrayList<>();
        final List<Case> cases = new ArrayList<>();
        private final List<String> wanted = new ArrayList<>(List.of("=J", "steps", "=;", "cases", "end"));
        private final List<Integer> read = new ArrayList<>();
        private char sign;
        private List<Event> events;
        private List<Row> told;

        Parser(String text) {
            this.text = text;
        }

        boolean parse() {
            while (!wanted.isEmpty()) {
                String next = wanted.remove(0);
                while (at < text.length() && text.charAt(at) == ' ') {
                    at++;
                }
                char here = at < text.length() ? text.charAt(at) : '\n';
                if (!meet(next, here)) {
                    return false;
                }
            }
            return true;
        }

        private void want(String... more) {
            wanted.addAll(0, Arrays.asList(more));
        }

        private boolean meet(String next, char here) {
            switch (next) {
                case "steps": return meetSteps(here);
                case "cases": return meetCases(here);
                case "events": return meetEvents(here);
                case "told": return meetTold(here);
                case "int": return number(Pattern.compile("-?[0-9]{1,3}"));
                case "time": return number(Pattern.compile("[0-9]{1,3}"));
                case "nat": return number(Pattern.compile("[0-9]{1,3}")) && read.get(read.size() - 1) != 0;
                case "end": return here == '\n';
                case "step!":
                    char act = "fm".indexOf(sign) >= 0 ? (char) (int) read.remove(0) : 0;
                    steps.add(new Step(sign, act, read.isEmpty() ? 0 : read.remove(0)));
                    return true;
                case "row!":
                    events.add(new Event(sign, "abcd".indexOf(read.remove(0)), read.remove(0), read.remove(0)));
                    return true;
                case "mark!":
                    events.add(new Event(sign, NONE, 0, read.isEmpty() ? NONE : read.remove(0)));
                    return true;
                case "told!":
                    told.add(new Row("abcd".indexOf(read.remove(0)), read.remove(0), read.remove(0)));
                    return true;
                case "case!":
                    cases.add(new Case(events, told, (char) (int) read.remove(0)));
                    return true;
                default:
                    // "=" ahead of signs that may stand here, "?" if the sign is wanted later
                    if (next.indexOf(here, 1) < 0) {
                        return false;
                    }
                    if (next.charAt(0) == '?') {
                        read.add((int) here);
                    }
                    at++;
                    return true;
            }
        }

        private boolean number(Pattern form) {
            Matcher matcher = form.matcher(text).region(at, text.length());
            if (!matcher.lookingAt()) {
                if (form.pattern().startsWith("-") && at < text.length() && text.charAt(at) == '-') {
                    at++;
                }
                return false;
            }
            read.add(Integer.parseInt(matcher.group()));
            at = matcher.end();
            return true;
        }

        private boolean meetSteps(char here) {
            long timers = steps.stream().filter(step -> step.sign == 't').count();
            if (steps.size() == 6 || "fmqdswt".indexOf(here) < 0 || (here == 't' && timers == 2)) {
                return true;
            }
            at++;
            sign = here;
            switch (here) {
                case 'f' -> want("?<=>", "int", "step!", "steps");
                case 'm' -> want("?+-*/", "int", "step!", "steps");
                case 'q' -> want("int", "step!", "steps");
                case 'w', 't' -> want("nat", "step!", "steps");
                default -> want("step!", "steps");
            }
            return true;
        }

        private boolean meetCases(char here) {
            if (cases.size() < 8 && here == 'C') {
                at++;
                events = new ArrayList<>();
                told = new ArrayList<>();
                want("events", "=:", "told", "?=~!", "=;", "case!", "cases");
            }
            return true;
        }

        private boolean meetEvents(char here) {
            if (events.size() == 24 || "rRhHkx".indexOf(here) < 0) {
                return true;
            }
            at++;
            sign = here;
            switch (here) {
                case 'r', 'R' -> want("?abcd", "int", "time", "row!", "events");
                case 'h', 'H' -> want("time", "mark!", "events");
                default -> want("mark!", "events");
            }
            return true;
        }

        private boolean meetTold(char here) {
            if (told.size() < 16 && "abcd".indexOf(here) >= 0) {
                want("?abcd", "int", "time", "told!", "told");
            }
            return true;
        }
    }

    // ---- one run

    private static final class ZeroFound extends RuntimeException {
        private static final long serialVersionUID = 1;
    }

    /** A run: a failure brings back what was there, so it changes nothing but counts. */
    static final class Run {
        final List<Step> steps;
        final List<Row> given = new ArrayList<>();
        private final List<Row> held = new ArrayList<>();
        final List<Map<String, Object>> knows = new ArrayList<>();
        final int[][] tally;
        private int[][] tallyAtMark;
        int side = 0;
        int zeroStep = NONE;
        int done = 0;

        Run(List<Step> steps, List<Event> events) {
            this.steps = steps;
            tally = new int[steps.size()][5];
            tallyAtMark = new int[steps.size()][5];
            for (int k = 0; k < steps.size(); k++) {
                knows.add(new HashMap<>());
            }
            try {
                doAll(events);
                tell(5000);
                given.addAll(held);
            } catch (ZeroFound found) {
                held.clear();
            }
        }

        private void doAll(List<Event> events) {
            boolean looksAtA = events.stream().anyMatch(Event::isOfA);
            boolean looksAtB = events.stream().anyMatch(Event::isOfB);
            int ofA = looksAtA ? -1 : 4999;
            int ofB = looksAtB ? -1 : 4999;
            int w = -1;
            int sinceMark = 0;
            for (Event event : events) {
                done++;
                switch (event.sign) {
                    case 'k':
                        given.addAll(held);
                        held.clear();
                        sinceMark = 0;
                        tallyAtMark = copy(tally);
                        break;
                    case 'x':
                        done += sinceMark;
                        repeatTally();
                        break;
                    case 'h':
                        sinceMark++;
                        ofA = Math.max(ofA, event.time);
                        break;
                    case 'H':
                        sinceMark++;
                        ofB = Math.max(ofB, event.time);
                        break;
                    default:
                        sinceMark++;
                        send(0, new Row(event.key, event.value, event.time));
                }
                int now = Math.min(ofA, ofB);
                if (now > w && now < 4999) {
                    w = now;
                    tell(w);
                }
            }
        }

        private static int[][] copy(int[][] from) {
            int[][] to = new int[from.length][];
            for (int k = 0; k < from.length; k++) {
                to[k] = from[k].clone();
            }
            return to;
        }

        /** What was counted since the mark (once: repeats are taken out of the count again) counts once more. */
        private void repeatTally() {
            for (int k = 0; k < tally.length; k++) {
                for (int i = 0; i < 5; i++) {
                    int once = tally[k][i] - tallyAtMark[k][i];
                    tally[k][i] += once;
                    // the mark's count moves up with the repeat, so that only first times are repeated again
                    tallyAtMark[k][i] += once;
                }
            }
        }

        @SuppressWarnings("unchecked")
        private <T> T known(int k, T fresh) {
            return (T) knows.get(k).computeIfAbsent("it", name -> fresh);
        }

        private void send(int k, Row row) {
            if (k == steps.size()) {
                held.add(row);
                return;
            }
            tally[k][0]++;
            Step step = steps.get(k);
            int n = step.number;
            switch (step.sign) {
                case 'f':
                    int compared = Integer.compare(row.value, n);
                    if (compared == "<=>".indexOf(step.act) - 1) {
                        goOn(k, row);
                    }
                    break;
                case 'm':
                    goOn(k, new Row(row.key, byNumber(k, step.act, row.value, n), row.time));
                    break;
                case 'q':
                    goOn(k, new Row(row.key, byNumber(k, '/', n, row.value), row.time));
                    break;
                case 'd':
                    Set<List<Integer>> came = known(k, new HashSet<>());
                    if (came.add(List.of(row.key, row.value))) {
                        goOn(k, row);
                    }
                    break;
                case 's':
                    Map<Integer, Integer> sums = known(k, new HashMap<>());
                    goOn(k, new Row(row.key, sums.merge(row.key, row.value, Integer::sum), row.time));
                    break;
                case 'w':
                    int end = n;
                    while (end <= row.time) {
                        end += n;
                    }
                    if (end <= (Integer) knows.get(k).getOrDefault("w", -1)) {
                        side++;
                        tally[k][3]++;
                    } else {
                        TreeMap<Integer, TreeMap<Integer, Integer>> spans = known(k, new TreeMap<>());
                        spans.computeIfAbsent(end, e -> new TreeMap<>()).merge(row.key, 1, Integer::sum);
                    }
                    break;
                default:
                    Map<Integer, Integer> timers = known(k, new HashMap<>());
                    timers.put(row.key, row.time + n);
                    goOn(k, row);
            }
        }

        private void goOn(int k, Row row) {
            tally[k][1]++;
            send(k + 1, row);
        }

        private int byNumber(int k, char act, int a, int b) {
            if (act == '/' && b == 0) {
                tally[k][4]++;
                zeroStep = k;
                throw new ZeroFound();
            }
            return (int) switch (act) {
                case '+' -> (long) a + b;
                case '-' -> (long) a - b;
                case '*' -> (long) a * b;
                default -> (long) a / b;
            };
        }

        private void tell(int w) {
            for (int k = 0; k < steps.size(); k++) {
                List<Row> made = new ArrayList<>();
                if (steps.get(k).sign == 'w') {
                    TreeMap<Integer, TreeMap<Integer, Integer>> spans = known(k, new TreeMap<>());
                    while (!spans.isEmpty() && spans.firstKey() <= w) {
                        int end = spans.firstKey();
                        spans.pollFirstEntry().getValue().forEach((key, n) -> made.add(new Row(key, n, end - 1)));
                    }
                } else if (steps.get(k).sign == 't') {
                    Map<Integer, Integer> timers = known(k, new HashMap<>());
                    timers.forEach((key, time) -> made.add(new Row(key, 0, time)));
                    made.removeIf(row -> row.time > w);
                    made.forEach(row -> timers.remove(row.key));
                    made.sort(Comparator.comparingInt(Row::time).thenComparingInt(Row::key));
                }
                for (Row row : made) {
                    tally[k][2]++;
                    goOn(k, row);
                }
                knows.get(k).put("w", w);
            }
        }
    }

    // ---- answers

    private static List<Row> sorted(List<Row> rows) {
        List<Row> all = new ArrayList<>(rows);
        all.sort(BY_ALL);
        return all;
    }

    private static int verdict(List<Step> steps, List<Event> events, Case test) {
        Run run = new Run(steps, events);
        boolean zero = run.zeroStep != NONE;
        boolean inOrder = run.given.equals(test.told);
        boolean inAny = sorted(run.given).equals(sorted(test.told));
        switch (test.order) {
            case '!': return zero && inOrder ? 1 : 0;
            case '=': return zero ? 2 : inOrder ? 1 : 0;
            default: return zero ? 2 : inAny ? 1 : 0;
        }
    }

    private boolean has(int c) {
        return c >= 0 && c < cases.size();
    }

    private int verdict(int c) {
        return verdict(job, cases.get(c).events, cases.get(c));
    }

    int count(int what) {
        return switch (what) {
            case 0 -> job.size();
            case 1 -> cases.size();
            case 2 -> text.length();
            case 3 -> mutants().size();
            default -> BAD;
        };
    }

    int run(int c) {
        return has(c) ? verdict(c) : BAD;
    }

    int ran(int c, int what) {
        if (!has(c)) {
            return BAD;
        }
        Run run = new Run(job, cases.get(c).events);
        return switch (what) {
            case 0 -> run.given.size();
            case 1 -> run.side;
            case 2 -> run.zeroStep == NONE ? 0 : 1;
            case 3 -> run.zeroStep;
            case 4 -> run.done;
            default -> BAD;
        };
    }

    int out(int c, int i, int what) {
        if (!has(c) || what < 0 || what > 2) {
            return BAD;
        }
        List<Row> given = new Run(job, cases.get(c).events).given;
        if (i < 0 || i >= given.size()) {
            return 0;
        }
        Row row = given.get(i);
        return what == 0 ? row.key : what == 1 ? row.value : row.time;
    }

    int difference(int c) {
        if (!has(c)) {
            return BAD;
        }
        List<Row> given = new Run(job, cases.get(c).events).given;
        List<Row> told = cases.get(c).told;
        if (cases.get(c).order == '~') {
            given = sorted(given);
            told = sorted(told);
        }
        int i = 0;
        while (i < given.size() && i < told.size() && given.get(i).equals(told.get(i))) {
            i++;
        }
        return i == given.size() && i == told.size() ? NONE : i;
    }

    // ---- schedules

    private static List<Event> plain(Case test) {
        return test.events.stream().filter(event -> event.isOfA() || event.isOfB()).toList();
    }

    private static List<Integer> runLengths(int bits, int n) {
        List<Integer> lengths = new ArrayList<>();
        for (int i = 0; i < n; i++) {
            boolean same = i > 0 && ((bits >> i) & 1) == ((bits >> (i - 1)) & 1);
            if (same) {
                lengths.set(lengths.size() - 1, lengths.get(lengths.size() - 1) + 1);
            } else {
                lengths.add(1);
            }
        }
        return lengths;
    }

    /** All numbers with as many bits as B has events are tried. */
    List<Integer> schedulesOf(int c, int s) {
        int n = plain(cases.get(c)).size();
        long ofB = cases.get(c).events.stream().filter(Event::isOfB).count();
        List<Integer> found = new ArrayList<>();
        for (int bits = 0; bits < 1 << n; bits++) {
            if (Integer.bitCount(bits) == ofB) {
                // the bit above the last one would count as a switch
                int switches = n == 0 ? 0 : Integer.bitCount((bits ^ (bits >> 1)) & ((1 << (n - 1)) - 1));
                if (switches <= s) {
                    found.add(bits);
                }
            }
        }
        found.sort((one, other) -> {
            List<Integer> a = runLengths(one, n);
            List<Integer> b = runLengths(other, n);
            if (a.size() != b.size()) {
                return a.size() - b.size();
            }
            if ((one & 1) != (other & 1)) {
                return (one & 1) - (other & 1);
            }
            for (int i = 0; i < a.size(); i++) {
                if (!a.get(i).equals(b.get(i))) {
                    return a.get(i) - b.get(i);
                }
            }
            return 0;
        });
        return found;
    }

    int schedules(int c, int s) {
        return has(c) && s >= 0 && s <= 3 ? schedulesOf(c, s).size() : BAD;
    }

    int schedule(int c, int s, int k) {
        if (!has(c) || s < 0 || s > 3) {
            return BAD;
        }
        List<Integer> all = schedulesOf(c, s);
        return k >= 0 && k < all.size() ? all.get(k) : NONE;
    }

    int equal(int c, int bits) {
        if (!has(c)) {
            return BAD;
        }
        List<Event> plain = plain(cases.get(c));
        List<Event> ofA = new ArrayList<>(plain.stream().filter(Event::isOfA).toList());
        List<Event> ofB = new ArrayList<>(plain.stream().filter(Event::isOfB).toList());
        if (bits < 0 || bits >= 1L << plain.size() || Integer.bitCount(bits) != ofB.size()) {
            return BAD;
        }
        List<Event> mixed = new ArrayList<>();
        for (int i = 0; i < plain.size(); i++) {
            mixed.add((bits & (1 << i)) == 0 ? ofA.remove(0) : ofB.remove(0));
        }
        Run one = new Run(job, plain);
        Run other = new Run(job, mixed);
        boolean sameZero = (one.zeroStep == NONE) == (other.zeroStep == NONE);
        return sameZero && sorted(one.given).equals(sorted(other.given)) ? 1 : 0;
    }

    int failing(int c, int s, int k) {
        if (!has(c) || s < 0 || s > 3) {
            return BAD;
        }
        List<Integer> all = schedulesOf(c, s);
        List<Integer> places = new ArrayList<>();
        for (int i = 0; i < all.size(); i++) {
            if (equal(c, all.get(i)) == 0) {
                places.add(i);
            }
        }
        return k >= 0 && k < places.size() ? places.get(k) : NONE;
    }

    int shuffle(int c, int seed) {
        if (!has(c)) {
            return BAD;
        }
        long ofA = cases.get(c).events.stream().filter(Event::isOfA).count();
        long ofB = cases.get(c).events.stream().filter(Event::isOfB).count();
        String bits = "";
        int x = seed;
        while (ofA + ofB > 0) {
            if (ofA > 0 && ofB > 0) {
                x = (int) (x * 1103515245L + 12345L);
            }
            boolean ofTheSecond = ofA == 0 || (ofB > 0 && (x & 65536) != 0);
            if (ofTheSecond) {
                ofB--;
            } else {
                ofA--;
            }
            bits = (ofTheSecond ? "1" : "0") + bits;
        }
        return bits.isEmpty() ? 0 : Integer.parseInt(bits, 2);
    }

    // ---- shrinking

    private List<Integer> shrunk(int c) {
        List<Integer> places = new ArrayList<>();
        for (int i = 0; i < cases.get(c).events.size(); i++) {
            places.add(i);
        }
        while (true) {
            List<Integer> next = oneLess(c, places);
            if (next == null) {
                return places;
            }
            places = next;
        }
    }

    private List<Integer> oneLess(int c, List<Integer> places) {
        for (Integer gone : places) {
            List<Integer> rest = new ArrayList<>(places);
            rest.remove(gone);
            List<Event> events = rest.stream().map(i -> cases.get(c).events.get(i)).toList();
            if (verdict(job, events, cases.get(c)) == verdict(c)) {
                return rest;
            }
        }
        return null;
    }

    int shrink(int c) {
        return !has(c) ? BAD : verdict(c) == 1 ? NO : shrunk(c).size();
    }

    int left(int c, int i) {
        if (!has(c)) {
            return BAD;
        }
        if (verdict(c) == 1) {
            return NO;
        }
        List<Integer> places = shrunk(c);
        return i >= 0 && i < places.size() ? places.get(i) : NONE;
    }

    // ---- cover and mutants

    int cover(int step, int what) {
        if (step < 0 || step >= job.size() || what < 0 || what > 4) {
            return BAD;
        }
        int sum = 0;
        for (Case test : cases) {
            sum += new Run(job, test.events).tally[step][what];
        }
        return sum;
    }

    private record Mutant(int step, int way, Step changed) { }

    private List<Mutant> mutants() {
        List<Mutant> all = new ArrayList<>();
        for (int k = 0; k < job.size(); k++) {
            Step step = job.get(k);
            List<Step> ways = new ArrayList<>();
            String acts = step.sign == 'f' ? "<=>" : step.sign == 'm' ? "+-*/" : "";
            for (char act : acts.toCharArray()) {
                if (act != step.act) {
                    ways.add(new Step(step.sign, act, step.number));
                }
            }
            if ("fmqwt".indexOf(step.sign) >= 0) {
                ways.add(new Step(step.sign, step.act, step.number + 1));
            }
            if (step.sign == 'f') {
                ways.add(new Step(step.sign, step.act, step.number - 1));
            }
            ways.add(null);
            for (int way = 0; way < ways.size(); way++) {
                all.add(new Mutant(k, way, ways.get(way)));
            }
        }
        return all;
    }

    private List<Integer> killers(Mutant mutant) {
        List<Step> steps = new ArrayList<>(job);
        steps.set(mutant.step, mutant.changed);
        steps.removeAll(Collections.singleton(null));
        List<Integer> all = new ArrayList<>();
        for (int c = 0; c < cases.size(); c++) {
            if (verdict(c) == 1 && verdict(steps, cases.get(c).events, cases.get(c)) != 1) {
                all.add(c);
            }
        }
        return all;
    }

    int mutant(int k, int what) {
        List<Mutant> all = mutants();
        if (k < 0 || k >= all.size()) {
            return BAD;
        }
        Mutant it = all.get(k);
        return switch (what) {
            case 0 -> it.step;
            case 1 -> it.way;
            case 2 -> it.changed == null ? 1 : 0;
            case 3 -> killers(it).isEmpty() ? NONE : killers(it).get(0);
            case 4 -> killers(it).size();
            default -> BAD;
        };
    }

    int alone(int c) {
        return !has(c) ? BAD : (int) mutants().stream().filter(it -> killers(it).equals(List.of(c))).count();
    }

    int event(int c, int i, int what) {
        if (!has(c) || i < 0 || i >= cases.get(c).events.size()) {
            return BAD;
        }
        Event event = cases.get(c).events.get(i);
        return switch (what) {
            case 0 -> event.sign;
            case 1 -> event.key;
            case 2 -> event.value;
            case 3 -> event.time;
            default -> BAD;
        };
    }

    int step(int k, int what) {
        if (k < 0 || k >= job.size()) {
            return BAD;
        }
        Step step = job.get(k);
        return switch (what) {
            case 0 -> step.sign;
            case 1 -> step.number;
            case 2 -> step.act;
            default -> BAD;
        };
    }
}
