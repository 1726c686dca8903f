/**
 * Tests of jobs as texts: a job of steps over rows with times, and cases that tell what must come.
 * Everything that calls need is made in the constructor and used again, so calls make no objects.
 */
public final class JobTests {
    public static final int BAD = -1, NO = -2, NONE = -3;

    private static final int MOST_SIGNS = 500;
    private static final int MOST_STEPS = 6;
    private static final int MOST_TIMER_STEPS = 2;
    private static final int MOST_CASES = 8;
    private static final int MOST_EVENTS = 24;
    private static final int MOST_TOLD = 16;
    private static final int KEYS = 4;
    // Each of 24 rows can at most be doubled by each of two t: more never come to a step or out.
    private static final int MOST_ROWS = 96;
    // With 12 events of each input: 2 of one switch, 22 of two, 242 of three.
    private static final int MOST_SCHEDULES = 266;
    private static final int MOST_SWITCHES = 3;
    private static final int MOST_MUTANTS = 30;
    private static final int UNKNOWN = -4;
    private static final int LAST_W = 5000;

    private static final int CAME = 0;
    private static final int WENT_ON = 1;
    private static final int BY_W = 2;
    private static final int TO_SIDE = 3;
    private static final int ZEROS = 4;
    private static final int TALLIES = 5;

    private static final String STEP_SIGNS = "fmqdswt";
    private static final String EVENT_SIGNS = "rRhHkx";
    private static final String KEY_SIGNS = "abcd";
    private static final String ORDER_SIGNS = "=~!";
    private static final String FILTER_ACTS = "<=>";
    private static final String NUMBER_ACTS = "+-*/";

    private final char[] text = new char[MOST_SIGNS];
    private int length = 0;
    private Script script = new Script();
    private Script draft = new Script();
    private final Reader reader = new Reader();
    private final Runner runner = new Runner();
    private final Judge judge = new Judge();
    private final Order order = new Order();
    private final Order trial = new Order();
    private final Schedules lists = new Schedules();
    private final Job changed = new Job();
    private final Rows plainRows = new Rows(MOST_ROWS);
    private boolean plainZero = false;
    private final int[] kills = new int[MOST_MUTANTS];
    private boolean killsKnown = false;
    private final int[] covered = new int[MOST_STEPS * TALLIES];
    private boolean coverKnown = false;

    public JobTests() {
    }

    public int type(long signs, int n) {
        if (n < 1 || n > 8) {
            return BAD;
        }
        for (int i = 0; i < n; i++) {
            int sign = (int) (signs >>> (8 * i)) & 255;
            if (sign < 32 || sign > 126) {
                return BAD;
            }
        }
        if (length + n > MOST_SIGNS) {
            return NO;
        }
        for (int i = 0; i < n; i++) {
            text[length + i] = (char) ((signs >>> (8 * i)) & 255);
        }
        length += n;
        return length;
    }

    public int parse() {
        boolean good = reader.read(text, length, draft);
        length = 0;
        if (!good) {
            return -10 - reader.place;
        }
        Script before = script;
        script = draft;
        draft = before;
        runner.wholeOf = NONE;
        killsKnown = false;
        coverKnown = false;
        return script.size;
    }

    public int count(int what) {
        switch (what) {
            case 0:
                return script.job.size;
            case 1:
                return script.size;
            case 2:
                return length;
            case 3:
                return script.job.mutants();
            default:
                return BAD;
        }
    }

    public int run(int c) {
        if (!hasCase(c)) {
            return BAD;
        }
        runWhole(c);
        return judge.verdict(script.cases[c], runner);
    }

    public int ran(int c, int what) {
        if (!hasCase(c) || what < 0 || what > 4) {
            return BAD;
        }
        runWhole(c);
        switch (what) {
            case 0:
                return runner.outs.size;
            case 1:
                return runner.memory.side;
            case 2:
                return runner.zeroStep == NONE ? 0 : 1;
            case 3:
                return runner.zeroStep;
            default:
                return runner.done;
        }
    }

    public int out(int c, int i, int what) {
        if (!hasCase(c) || what < 0 || what > 2) {
            return BAD;
        }
        runWhole(c);
        if (i < 0 || i >= runner.outs.size) {
            return 0;
        }
        switch (what) {
            case 0:
                return runner.outs.keyAt(i);
            case 1:
                return runner.outs.valueAt(i);
            default:
                return runner.outs.timeAt(i);
        }
    }

    public int difference(int c) {
        if (!hasCase(c)) {
            return BAD;
        }
        runWhole(c);
        return judge.firstDifference(script.cases[c], runner.outs);
    }

    public int schedules(int c, int s) {
        if (!hasCase(c) || s < 0 || s > MOST_SWITCHES) {
            return BAD;
        }
        listSchedules(c);
        return lists.ends[s];
    }

    public int schedule(int c, int s, int k) {
        if (!hasCase(c) || s < 0 || s > MOST_SWITCHES) {
            return BAD;
        }
        listSchedules(c);
        return k < 0 || k >= lists.ends[s] ? NONE : lists.bits[k];
    }

    public int equal(int c, int bits) {
        if (!hasCase(c) || bits < 0) {
            return BAD;
        }
        TestCase test = script.cases[c];
        int ofB = test.eventsOf(true);
        int all = test.eventsOf(false) + ofB;
        if ((bits >> all) != 0 || Integer.bitCount(bits) != ofB) {
            return BAD;
        }
        runPlain(test);
        return isEqual(test, bits) ? 1 : 0;
    }

    public int failing(int c, int s, int k) {
        if (!hasCase(c) || s < 0 || s > MOST_SWITCHES) {
            return BAD;
        }
        if (k < 0) {
            return NONE;
        }
        listSchedules(c);
        TestCase test = script.cases[c];
        int end = lists.ends[s];
        if (test.unequalSize <= k && test.checked < end) {
            runPlain(test);
        }
        for (int place = test.checked; place < end && test.unequalSize <= k; place++) {
            test.noteChecked(place, isEqual(test, lists.bits[place]));
        }
        return k < test.unequalSize && test.unequal[k] < end ? test.unequal[k] : NONE;
    }

    public int shuffle(int c, int seed) {
        if (!hasCase(c)) {
            return BAD;
        }
        int ofA = script.cases[c].eventsOf(false);
        int ofB = script.cases[c].eventsOf(true);
        int all = ofA + ofB;
        int x = seed;
        int bits = 0;
        for (int i = 0; i < all; i++) {
            boolean takesB = ofA == 0;
            if (ofA > 0 && ofB > 0) {
                x = x * 1103515245 + 12345;
                takesB = ((x >> 16) & 1) == 1;
            }
            if (takesB) {
                bits |= 1 << i;
                ofB--;
            } else {
                ofA--;
            }
        }
        return bits;
    }

    public int shrink(int c) {
        if (!hasCase(c)) {
            return BAD;
        }
        shrinkCase(script.cases[c]);
        return script.cases[c].keptSize;
    }

    public int left(int c, int i) {
        if (!hasCase(c)) {
            return BAD;
        }
        TestCase test = script.cases[c];
        shrinkCase(test);
        if (test.keptSize == NO) {
            return NO;
        }
        return i < 0 || i >= test.keptSize ? NONE : test.kept[i];
    }

    public int cover(int step, int what) {
        if (step < 0 || step >= script.job.size || what < 0 || what >= TALLIES) {
            return BAD;
        }
        findCover();
        return covered[step * TALLIES + what];
    }

    public int mutant(int k, int what) {
        if (k < 0 || k >= script.job.mutants() || what < 0 || what > 4) {
            return BAD;
        }
        int step = script.job.stepOfMutant(k);
        int way = script.job.wayOfMutant(k);
        switch (what) {
            case 0:
                return step;
            case 1:
                return way;
            case 2:
                return way == script.job.waysOf(step) - 1 ? 1 : 0;
            case 3:
                findKills();
                return kills[k] == 0 ? NONE : Integer.numberOfTrailingZeros(kills[k]);
            default:
                findKills();
                return Integer.bitCount(kills[k]);
        }
    }

    public int alone(int c) {
        if (!hasCase(c)) {
            return BAD;
        }
        findKills();
        int mutants = script.job.mutants();
        int found = 0;
        for (int k = 0; k < mutants && k < MOST_MUTANTS; k++) {
            if (kills[k] == 1 << c) {
                found++;
            }
        }
        return found;
    }

    public int event(int c, int i, int what) {
        if (!hasCase(c) || i < 0 || i >= script.cases[c].size) {
            return BAD;
        }
        TestCase test = script.cases[c];
        switch (what) {
            case 0:
                return test.signs[i];
            case 1:
                return test.keys[i];
            case 2:
                return test.values[i];
            case 3:
                return test.times[i];
            default:
                return BAD;
        }
    }

    public int step(int k, int what) {
        if (k < 0 || k >= script.job.size) {
            return BAD;
        }
        switch (what) {
            case 0:
                return script.job.signs[k];
            case 1:
                return script.job.numbers[k];
            case 2:
                return script.job.acts[k];
            default:
                return BAD;
        }
    }

    private boolean hasCase(int c) {
        return c >= 0 && c < script.size;
    }

    /** Leaves the run of the whole case in the runner; calls about one case often follow each other. */
    private void runWhole(int c) {
        if (runner.wholeOf != c) {
            order.takeAll(script.cases[c]);
            runner.perform(script.job, script.cases[c], order);
            runner.wholeOf = c;
        }
    }

    private void listSchedules(int c) {
        lists.list(script.cases[c].eventsOf(false), script.cases[c].eventsOf(true));
    }

    private void runPlain(TestCase test) {
        order.takePlain(test);
        runner.perform(script.job, test, order);
        plainRows.becomeSorted(runner.outs);
        plainZero = runner.zeroStep != NONE;
    }

    /** Wants the plain run of the same case to have been done. */
    private boolean isEqual(TestCase test, int bits) {
        order.takeSchedule(test, bits);
        runner.perform(script.job, test, order);
        boolean zero = runner.zeroStep != NONE;
        return zero == plainZero && judge.isSortedAs(plainRows, runner.outs);
    }

    /** Keeps in the case which events are left, or NO; is done once for a case. */
    private void shrinkCase(TestCase test) {
        if (test.keptSize != UNKNOWN) {
            return;
        }
        order.takeAll(test);
        runner.perform(script.job, test, order);
        int verdict = judge.verdict(test, runner);
        if (verdict == 1) {
            test.keptSize = NO;
            return;
        }
        int i = 0;
        // No more rounds than events, and one more; none has more tries than events.
        int mostTries = MOST_EVENTS * (MOST_EVENTS + 1);
        for (int tries = 0; tries < mostTries && i < order.size; tries++) {
            trial.takeWithout(order, i);
            runner.perform(script.job, test, trial);
            if (judge.verdict(test, runner) == verdict) {
                order.takeWithout(order, i);
                i = 0;
            } else {
                i++;
            }
        }
        test.keep(order);
    }

    private void findCover() {
        if (coverKnown) {
            return;
        }
        runner.clearTally();
        for (int c = 0; c < script.size; c++) {
            order.takeAll(script.cases[c]);
            runner.perform(script.job, script.cases[c], order);
        }
        System.arraycopy(runner.tally, 0, covered, 0, covered.length);
        coverKnown = true;
    }

    /** Of each mutant the cases that kill it, a bit a case. */
    private void findKills() {
        if (killsKnown) {
            return;
        }
        int mutants = script.job.mutants();
        for (int k = 0; k < MOST_MUTANTS; k++) {
            kills[k] = 0;
        }
        for (int c = 0; c < script.size; c++) {
            TestCase test = script.cases[c];
            order.takeAll(test);
            runner.perform(script.job, test, order);
            if (judge.verdict(test, runner) == 1) {
                for (int k = 0; k < mutants && k < MOST_MUTANTS; k++) {
                    changed.becomeMutant(script.job, k);
                    runner.perform(changed, test, order);
                    if (judge.verdict(test, runner) != 1) {
                        kills[k] |= 1 << c;
                    }
                }
            }
        }
        killsKnown = true;
    }

    /** Rows, each packed into a long, so that the order of longs is that of keys, values, times. */
    private static final class Rows {
        // No time reaches 7000 (999 and six steps of 1000 at most), so 13 bits hold it.
        private static final int TIME_BITS = 13;
        private static final int KEY_PLACE = 45;

        private final long[] packed;
        int size = 0;

        Rows(int most) {
            packed = new long[Math.max(0, most)];
        }

        void add(int key, int value, int time) {
            if (size < packed.length) {
                long above = (long) value - Integer.MIN_VALUE;
                packed[size] = ((long) key << KEY_PLACE) | (above << TIME_BITS) | time;
                size++;
            }
        }

        void cutTo(int newSize) {
            size = Math.max(0, Math.min(size, newSize));
        }

        int keyAt(int i) {
            return i < 0 || i >= size ? 0 : (int) (packed[i] >> KEY_PLACE);
        }

        int valueAt(int i) {
            // The cast drops the key above the 32 bits of the value.
            return i < 0 || i >= size ? 0 : (int) (packed[i] >> TIME_BITS) + Integer.MIN_VALUE;
        }

        int timeAt(int i) {
            return i < 0 || i >= size ? 0 : (int) packed[i] & ((1 << TIME_BITS) - 1);
        }

        void becomeSorted(Rows other) {
            size = 0;
            for (int i = 0; i < other.size && i < packed.length; i++) {
                long row = other.packed[i];
                int at = size;
                while (at > 0 && packed[at - 1] > row) {
                    packed[at] = packed[at - 1];
                    at--;
                }
                packed[at] = row;
                size++;
            }
        }

        int firstDifference(Rows other) {
            int both = Math.min(size, other.size);
            for (int i = 0; i < both; i++) {
                if (packed[i] != other.packed[i]) {
                    return i;
                }
            }
            return size == other.size ? NONE : both;
        }
    }

    /** Steps, and how mutants are made of them. */
    private static final class Job {
        int size = 0;
        final int[] signs = new int[MOST_STEPS];
        final int[] acts = new int[MOST_STEPS];
        final int[] numbers = new int[MOST_STEPS];

        void addStep(int sign, int act, int number) {
            if (size < MOST_STEPS) {
                signs[size] = sign;
                acts[size] = act;
                numbers[size] = number;
                size++;
            }
        }

        private int otherActs(int step) {
            return signs[step] == 'f' ? 2 : signs[step] == 'm' ? 3 : 0;
        }

        int waysOf(int step) {
            switch (signs[step]) {
                case 'f':
                case 'm':
                    return 5;
                case 'd':
                case 's':
                    return 1;
                default:
                    return 2;
            }
        }

        int mutants() {
            int all = 0;
            for (int k = 0; k < size; k++) {
                all += waysOf(k);
            }
            return all;
        }

        int stepOfMutant(int mutant) {
            int ahead = 0;
            for (int k = 0; k < size; k++) {
                ahead += waysOf(k);
                if (mutant < ahead) {
                    return k;
                }
            }
            return NONE;
        }

        int wayOfMutant(int mutant) {
            int way = mutant;
            for (int k = 0; k < size && way >= waysOf(k); k++) {
                way -= waysOf(k);
            }
            return way;
        }

        void becomeMutant(Job job, int mutant) {
            int step = job.stepOfMutant(mutant);
            int way = job.wayOfMutant(mutant);
            size = 0;
            for (int k = 0; k < job.size; k++) {
                if (k != step) {
                    addStep(job.signs[k], job.acts[k], job.numbers[k]);
                } else if (way < job.waysOf(k) - 1) {
                    addChanged(job, k, way);
                }
            }
        }

        private void addChanged(Job job, int k, int way) {
            int others = job.otherActs(k);
            if (way < others) {
                String all = job.signs[k] == 'f' ? FILTER_ACTS : NUMBER_ACTS;
                int at = way < all.indexOf((char) job.acts[k]) ? way : way + 1;
                addStep(job.signs[k], at < all.length() ? all.charAt(at) : 0, job.numbers[k]);
            } else {
                addStep(job.signs[k], job.acts[k], job.numbers[k] + (way == others ? 1 : -1));
            }
        }
    }

    /** A case, and what calls have found out about it since it was read. */
    private static final class TestCase {
        int size = 0;
        final int[] signs = new int[MOST_EVENTS];
        final int[] keys = new int[MOST_EVENTS];
        final int[] values = new int[MOST_EVENTS];
        final int[] times = new int[MOST_EVENTS];
        final Rows told = new Rows(MOST_TOLD);
        int orderSign = '=';

        int keptSize = UNKNOWN;
        final int[] kept = new int[MOST_EVENTS];
        int checked = 0;
        int unequalSize = 0;
        final int[] unequal = new int[MOST_SCHEDULES];

        void clear() {
            size = 0;
            told.cutTo(0);
            orderSign = '=';
            keptSize = UNKNOWN;
            checked = 0;
            unequalSize = 0;
        }

        void addEvent(int sign, int key, int value, int time) {
            if (size < MOST_EVENTS) {
                signs[size] = sign;
                keys[size] = key;
                values[size] = value;
                times[size] = time;
                size++;
            }
        }

        boolean isOf(int i, boolean ofB) {
            return ofB ? signs[i] == 'R' || signs[i] == 'H' : signs[i] == 'r' || signs[i] == 'h';
        }

        int eventsOf(boolean ofB) {
            int found = 0;
            for (int i = 0; i < size; i++) {
                if (isOf(i, ofB)) {
                    found++;
                }
            }
            return found;
        }

        /** The first event of an input from a place on; the size, if there is none. */
        int nextOf(int from, boolean ofB) {
            for (int i = from; i < size; i++) {
                if (isOf(i, ofB)) {
                    return i;
                }
            }
            return size;
        }

        void keep(Order order) {
            for (int i = 0; i < order.size; i++) {
                kept[i] = order.places[i];
            }
            keptSize = order.size;
        }

        void noteChecked(int place, boolean equal) {
            if (!equal && unequalSize < MOST_SCHEDULES) {
                unequal[unequalSize] = place;
                unequalSize++;
            }
            checked = place + 1;
        }
    }

    /** What a text says: a job and its cases. */
    private static final class Script {
        final Job job = new Job();
        final TestCase[] cases = new TestCase[MOST_CASES];
        int size = 0;

        Script() {
            for (int c = 0; c < MOST_CASES; c++) {
                cases[c] = new TestCase();
            }
        }

        void clear() {
            job.size = 0;
            size = 0;
        }
    }

    /** Reads a text; where it does not go on, place is that of the sign that cannot stand there. */
    private static final class Reader {
        private static final char END = 0;

        private char[] signs = new char[0];
        private int length = 0;
        private int number = 0;
        int place = 0;

        boolean read(char[] text, int textLength, Script into) {
            signs = text;
            length = Math.min(textLength, text.length);
            place = 0;
            into.clear();
            return take('J') && readSteps(into.job) && take(';') && readCases(into) && nextSign() == END;
        }

        private char nextSign() {
            while (place < length && signs[place] == ' ') {
                place++;
            }
            return place < length ? signs[place] : END;
        }

        private boolean take(char sign) {
            if (nextSign() != sign) {
                return false;
            }
            place++;
            return true;
        }

        private boolean readSteps(Job job) {
            int timers = 0;
            for (int k = 0; k < MOST_STEPS; k++) {
                char sign = nextSign();
                if (STEP_SIGNS.indexOf(sign) < 0 || (sign == 't' && timers == MOST_TIMER_STEPS)) {
                    return true;
                }
                place++;
                if (sign == 't') {
                    timers++;
                }
                if (!readStep(job, sign)) {
                    return false;
                }
            }
            return true;
        }

        private boolean readStep(Job job, char sign) {
            char act = END;
            if (sign == 'f' || sign == 'm') {
                act = nextSign();
                String acts = sign == 'f' ? FILTER_ACTS : NUMBER_ACTS;
                if (acts.indexOf(act) < 0) {
                    return false;
                }
                place++;
            }
            number = 0;
            boolean good = true;
            if (sign == 'w' || sign == 't') {
                good = readTime() && number > 0;
            } else if (sign != 'd' && sign != 's') {
                good = readInt();
            }
            if (good) {
                job.addStep(sign, act, number);
            }
            return good;
        }

        private boolean readCases(Script into) {
            for (int c = 0; c < MOST_CASES; c++) {
                if (!take('C')) {
                    return true;
                }
                TestCase test = into.cases[c];
                test.clear();
                if (!readEvents(test) || !take(':') || !readTold(test) || !readOrder(test) || !take(';')) {
                    return false;
                }
                into.size = c + 1;
            }
            return true;
        }

        private boolean readEvents(TestCase test) {
            for (int i = 0; i < MOST_EVENTS; i++) {
                char sign = nextSign();
                if (EVENT_SIGNS.indexOf(sign) < 0) {
                    return true;
                }
                place++;
                if (!readEvent(test, sign)) {
                    return false;
                }
            }
            return true;
        }

        private boolean readEvent(TestCase test, char sign) {
            int key = NONE;
            int value = 0;
            int time = NONE;
            if (sign == 'r' || sign == 'R') {
                key = KEY_SIGNS.indexOf(nextSign());
                if (key < 0) {
                    return false;
                }
                place++;
                if (!readInt()) {
                    return false;
                }
                value = number;
            }
            if (sign != 'k' && sign != 'x') {
                if (!readTime()) {
                    return false;
                }
                time = number;
            }
            test.addEvent(sign, key, value, time);
            return true;
        }

        private boolean readTold(TestCase test) {
            for (int i = 0; i < MOST_TOLD; i++) {
                int key = KEY_SIGNS.indexOf(nextSign());
                if (key < 0) {
                    return true;
                }
                place++;
                if (!readInt()) {
                    return false;
                }
                int value = number;
                if (!readTime()) {
                    return false;
                }
                test.told.add(key, value, number);
            }
            return true;
        }

        private boolean readOrder(TestCase test) {
            char sign = nextSign();
            if (ORDER_SIGNS.indexOf(sign) < 0) {
                return false;
            }
            place++;
            test.orderSign = sign;
            return true;
        }

        private boolean readInt() {
            boolean minus = nextSign() == '-';
            if (minus) {
                place++;
            }
            boolean good = readDigits();
            if (minus) {
                number = -number;
            }
            return good;
        }

        private boolean readTime() {
            nextSign();
            return readDigits();
        }

        /** One to three digits that stand right here: no blank may stand between - and them. */
        private boolean readDigits() {
            int digits = 0;
            number = 0;
            while (digits < 3 && place < length && signs[place] >= '0' && signs[place] <= '9') {
                number = number * 10 + (signs[place] - '0');
                place++;
                digits++;
            }
            return digits > 0;
        }
    }

    /** Places of events of a case, in the order in which a run does them. */
    private static final class Order {
        final int[] places = new int[MOST_EVENTS];
        int size = 0;

        private void addPlace(int place) {
            if (size < MOST_EVENTS) {
                places[size] = place;
                size++;
            }
        }

        void takeAll(TestCase test) {
            size = 0;
            for (int i = 0; i < test.size; i++) {
                addPlace(i);
            }
        }

        void takePlain(TestCase test) {
            size = 0;
            for (int i = 0; i < test.size; i++) {
                if (test.isOf(i, false) || test.isOf(i, true)) {
                    addPlace(i);
                }
            }
        }

        void takeSchedule(TestCase test, int bits) {
            int all = test.eventsOf(false) + test.eventsOf(true);
            int fromA = 0;
            int fromB = 0;
            size = 0;
            for (int i = 0; i < all; i++) {
                boolean ofB = ((bits >> i) & 1) == 1;
                int place = test.nextOf(ofB ? fromB : fromA, ofB);
                if (place < test.size) {
                    addPlace(place);
                }
                if (ofB) {
                    fromB = place + 1;
                } else {
                    fromA = place + 1;
                }
            }
        }

        /** The other order without one of its places; the other one may be this one. */
        void takeWithout(Order other, int gone) {
            int otherSize = other.size;
            size = 0;
            for (int i = 0; i < otherSize; i++) {
                if (i != gone) {
                    addPlace(other.places[i]);
                }
            }
        }
    }

    /** The schedules of so many events of A and of B with at most three switches, in their order. */
    private static final class Schedules {
        final int[] bits = new int[MOST_SCHEDULES];
        final int[] ends = new int[MOST_SWITCHES + 1];
        private int size = 0;
        private int listedA = NONE;
        private int listedB = NONE;

        void list(int ofA, int ofB) {
            if (ofA == listedA && ofB == listedB) {
                return;
            }
            listedA = ofA;
            listedB = ofB;
            size = 0;
            if (ofA == 0 || ofB == 0) {
                addBits(ones(ofB));
            }
            ends[0] = size;
            if (ofA > 0 && ofB > 0) {
                addBits(ones(ofB) << ofA);
                addBits(ones(ofB));
            }
            ends[1] = size;
            addTwoSwitches(ofA, ofB);
            ends[2] = size;
            addThreeSwitches(ofA, ofB);
            ends[3] = size;
        }

        private void addTwoSwitches(int ofA, int ofB) {
            for (int i = 1; i < ofA && ofB > 0; i++) {
                addBits(ones(ofB) << i);
            }
            for (int j = 1; j < ofB && ofA > 0; j++) {
                addBits(ones(j) | (ones(ofB - j) << (j + ofA)));
            }
        }

        private void addThreeSwitches(int ofA, int ofB) {
            for (int i = 1; i < ofA; i++) {
                for (int j = 1; j < ofB; j++) {
                    addBits((ones(j) << i) | (ones(ofB - j) << (ofA + j)));
                }
            }
            for (int j = 1; j < ofB; j++) {
                for (int i = 1; i < ofA; i++) {
                    addBits(ones(j) | (ones(ofB - j) << (j + i)));
                }
            }
        }

        private void addBits(int schedule) {
            if (size < MOST_SCHEDULES) {
                bits[size] = schedule;
                size++;
            }
        }

        private static int ones(int n) {
            return (1 << n) - 1;
        }
    }

    /** What one step of a job knows. */
    private static final class StepMemory {
        private static final int NO_TIMER = -1;

        int toldW = -1;
        final int[] sums = new int[KEYS];
        final int[] timers = new int[KEYS];
        // For d the values with their keys that came; for w the ends with their keys, rising.
        private final long[] marks = new long[MOST_ROWS];
        private final int[] counts = new int[MOST_ROWS];
        private int size = 0;

        void clear() {
            toldW = -1;
            size = 0;
            for (int key = 0; key < KEYS; key++) {
                sums[key] = 0;
                timers[key] = NO_TIMER;
            }
        }

        void copyFrom(StepMemory other) {
            toldW = other.toldW;
            size = other.size;
            for (int key = 0; key < KEYS; key++) {
                sums[key] = other.sums[key];
                timers[key] = other.timers[key];
            }
            for (int i = 0; i < size; i++) {
                marks[i] = other.marks[i];
                counts[i] = other.counts[i];
            }
        }

        boolean noteNew(int key, int value) {
            long mark = (long) value * KEYS + key;
            for (int i = 0; i < size; i++) {
                if (marks[i] == mark) {
                    return false;
                }
            }
            if (size < MOST_ROWS) {
                marks[size] = mark;
                size++;
            }
            return true;
        }

        int addToSum(int key, int value) {
            sums[key] += value;
            return sums[key];
        }

        /** Counts one more for the span of a time; false, if that span is late. */
        boolean countInSpan(int key, int time, int span) {
            int n = span > 0 ? span : 1;
            int end = (time / n + 1) * n;
            if (end <= toldW) {
                return false;
            }
            long mark = (long) end * KEYS + key;
            int at = 0;
            while (at < size && marks[at] < mark) {
                at++;
            }
            if (at < size && marks[at] == mark) {
                counts[at]++;
            } else if (size < MOST_ROWS) {
                for (int i = size; i > at; i--) {
                    marks[i] = marks[i - 1];
                    counts[i] = counts[i - 1];
                }
                marks[at] = mark;
                counts[at] = 1;
                size++;
            }
            return true;
        }

        int spansUpTo(int w) {
            int found = 0;
            while (found < size && endAt(found) <= w) {
                found++;
            }
            return found;
        }

        int endAt(int i) {
            return i < 0 || i >= size ? 0 : (int) (marks[i] / KEYS);
        }

        int keyAt(int i) {
            return i < 0 || i >= size ? 0 : (int) (marks[i] % KEYS);
        }

        int countAt(int i) {
            return i < 0 || i >= size ? 0 : counts[i];
        }

        void dropFirst(int gone) {
            for (int i = gone; i < size; i++) {
                marks[i - gone] = marks[i];
                counts[i - gone] = counts[i];
            }
            size = Math.max(0, size - gone);
        }

        /** The key whose timer is the next one not above w, NONE without such. */
        int nextTimer(int w) {
            int next = NONE;
            for (int key = 0; key < KEYS; key++) {
                boolean due = timers[key] != NO_TIMER && timers[key] <= w;
                if (due && (next == NONE || timers[key] < timers[next])) {
                    next = key;
                }
            }
            return next;
        }

        void dropTimer(int key) {
            timers[key] = NO_TIMER;
        }
    }

    /** All that a mark keeps and a failure brings back. */
    private static final class Memory {
        int ofA = -1;
        int ofB = -1;
        int w = -1;
        int side = 0;
        final StepMemory[] steps = new StepMemory[MOST_STEPS];

        Memory() {
            for (int k = 0; k < MOST_STEPS; k++) {
                steps[k] = new StepMemory();
            }
        }

        void clear(int stepsInUse) {
            ofA = -1;
            ofB = -1;
            w = -1;
            side = 0;
            for (int k = 0; k < stepsInUse && k < MOST_STEPS; k++) {
                steps[k].clear();
            }
        }

        void copyFrom(Memory other, int stepsInUse) {
            ofA = other.ofA;
            ofB = other.ofB;
            w = other.w;
            side = other.side;
            for (int k = 0; k < stepsInUse && k < MOST_STEPS; k++) {
                steps[k].copyFrom(other.steps[k]);
            }
        }

        void raise(boolean inputB, int time) {
            if (inputB) {
                ofB = Math.max(ofB, time);
            } else {
                ofA = Math.max(ofA, time);
            }
        }

        int lesser(boolean looksAtA, boolean looksAtB) {
            if (looksAtA && looksAtB) {
                return Math.min(ofA, ofB);
            }
            return looksAtA ? ofA : looksAtB ? ofB : -1;
        }
    }

    /** Runs events of a case through a job, and holds what came of the run until the next one. */
    private static final class Runner {
        private Job job = new Job();
        final Memory memory = new Memory();
        private final Memory saved = new Memory();
        final Rows outs = new Rows(MOST_ROWS);
        // Outs from this place on are held.
        private int given = 0;
        private boolean looksAtA = false;
        private boolean looksAtB = false;
        int zeroStep = NONE;
        int done = 0;
        // The case whose whole run is held here: set by the caller, as only it knows.
        int wholeOf = NONE;
        // Grows over runs until it is cleared; a failure takes nothing back.
        final int[] tally = new int[MOST_STEPS * TALLIES];

        void clearTally() {
            for (int i = 0; i < tally.length; i++) {
                tally[i] = 0;
            }
        }

        void perform(Job newJob, TestCase test, Order order) {
            begin(newJob, test, order);
            int resume = 0;
            for (int i = 0; i < order.size && zeroStep == NONE; i++) {
                int place = order.places[i];
                if (test.signs[place] == 'x') {
                    done++;
                    goBack();
                    for (int j = resume; j < i && zeroStep == NONE; j++) {
                        if (test.signs[order.places[j]] != 'x') {
                            doEvent(test, order.places[j]);
                        }
                    }
                } else {
                    doEvent(test, place);
                    resume = test.signs[place] == 'k' ? i + 1 : resume;
                }
            }
            if (zeroStep == NONE) {
                tellSteps(LAST_W);
            }
            if (zeroStep == NONE) {
                given = outs.size;
            }
            outs.cutTo(given);
        }

        private void begin(Job newJob, TestCase test, Order order) {
            job = newJob;
            memory.clear(job.size);
            saved.clear(job.size);
            outs.cutTo(0);
            given = 0;
            zeroStep = NONE;
            done = 0;
            wholeOf = NONE;
            looksAtA = false;
            looksAtB = false;
            for (int i = 0; i < order.size; i++) {
                looksAtA = looksAtA || test.isOf(order.places[i], false);
                looksAtB = looksAtB || test.isOf(order.places[i], true);
            }
        }

        private void goBack() {
            memory.copyFrom(saved, job.size);
            outs.cutTo(given);
        }

        private void doEvent(TestCase test, int place) {
            done++;
            int sign = test.signs[place];
            if (sign == 'r' || sign == 'R') {
                passOn(0, test.keys[place], test.values[place], test.times[place]);
            } else if (sign == 'k') {
                given = outs.size;
                saved.copyFrom(memory, job.size);
            } else if (sign == 'h' || sign == 'H') {
                memory.raise(sign == 'H', test.times[place]);
                int w = memory.lesser(looksAtA, looksAtB);
                if (w > memory.w) {
                    tellSteps(w);
                }
            }
        }

        private void tellSteps(int w) {
            memory.w = w;
            for (int k = 0; k < job.size && zeroStep == NONE; k++) {
                if (job.signs[k] == 'w') {
                    endSpans(k, w);
                } else if (job.signs[k] == 't') {
                    ringTimers(k, w);
                }
                memory.steps[k].toldW = w;
            }
        }

        private void endSpans(int k, int w) {
            StepMemory own = memory.steps[k];
            int ended = own.spansUpTo(w);
            for (int i = 0; i < ended && zeroStep == NONE; i++) {
                noteMadeByW(k);
                passOn(k + 1, own.keyAt(i), own.countAt(i), own.endAt(i) - 1);
            }
            own.dropFirst(ended);
        }

        private void ringTimers(int k, int w) {
            StepMemory own = memory.steps[k];
            int key = own.nextTimer(w);
            for (int rung = 0; rung < KEYS && key != NONE && zeroStep == NONE; rung++) {
                int time = own.timers[key];
                own.dropTimer(key);
                noteMadeByW(k);
                passOn(k + 1, key, 0, time);
                key = own.nextTimer(w);
            }
        }

        private void noteMadeByW(int k) {
            tally[k * TALLIES + WENT_ON]++;
            tally[k * TALLIES + BY_W]++;
        }

        private void passOn(int from, int key, int newValue, int time) {
            int value = newValue;
            for (int k = from; k < job.size; k++) {
                StepMemory own = memory.steps[k];
                int number = job.numbers[k];
                boolean goesOn = true;
                tally[k * TALLIES + CAME]++;
                if (findsZero(k, value)) {
                    zeroStep = k;
                    tally[k * TALLIES + ZEROS]++;
                    return;
                }
                switch (job.signs[k]) {
                    case 'f':
                        goesOn = lets(job.acts[k], value, number);
                        break;
                    case 'm':
                        value = actedOn(job.acts[k], value, number);
                        break;
                    case 'q':
                        value = actedOn('/', number, value);
                        break;
                    case 'd':
                        goesOn = own.noteNew(key, value);
                        break;
                    case 's':
                        value = own.addToSum(key, value);
                        break;
                    case 'w':
                        goesOn = false;
                        if (!own.countInSpan(key, time, number)) {
                            memory.side++;
                            tally[k * TALLIES + TO_SIDE]++;
                        }
                        break;
                    default:
                        own.timers[key] = time + number;
                        break;
                }
                if (!goesOn) {
                    return;
                }
                tally[k * TALLIES + WENT_ON]++;
            }
            outs.add(key, value, time);
        }

        private boolean findsZero(int k, int value) {
            if (job.signs[k] == 'q') {
                return value == 0;
            }
            return job.signs[k] == 'm' && job.acts[k] == '/' && job.numbers[k] == 0;
        }

        private static boolean lets(int act, int value, int number) {
            switch (act) {
                case '<':
                    return value < number;
                case '=':
                    return value == number;
                default:
                    return value > number;
            }
        }

        private static int actedOn(int act, int value, int number) {
            switch (act) {
                case '+':
                    return value + number;
                case '-':
                    return value - number;
                case '*':
                    return value * number;
                default:
                    return number == 0 ? 0 : value / number;
            }
        }
    }

    /** Compares what came with what was told. */
    private static final class Judge {
        private final Rows sortedOuts = new Rows(MOST_ROWS);
        private final Rows sortedTold = new Rows(MOST_ROWS);

        int firstDifference(TestCase test, Rows outs) {
            if (test.orderSign != '~') {
                return outs.firstDifference(test.told);
            }
            sortedOuts.becomeSorted(outs);
            sortedTold.becomeSorted(test.told);
            return sortedOuts.firstDifference(sortedTold);
        }

        int verdict(TestCase test, Runner runner) {
            boolean zero = runner.zeroStep != NONE;
            boolean same = firstDifference(test, runner.outs) == NONE;
            if (test.orderSign == '!') {
                return zero && same ? 1 : 0;
            }
            return zero ? 2 : same ? 1 : 0;
        }

        boolean isSortedAs(Rows sorted, Rows outs) {
            if (sorted.size != outs.size) {
                return false;
            }
            sortedOuts.becomeSorted(outs);
            return sortedOuts.firstDifference(sorted) == NONE;
        }
    }
}
