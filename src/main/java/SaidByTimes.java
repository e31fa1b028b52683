/**
 * A tongue whose words multiply: each thing is a number that nothing goes into,
 * and whatever is said is one number, all its things made into one by times.
 */
public final class SaidByTimes {
    public static final int NONE = -1000000;
    public static final long NOT = -9000000000000000000L;

    private static final long BAD = NOT - 1L;
    private static final long STATE = NOT - 2L;
    private static final long FULL = NOT - 3L;
    private static final long FOUND = NOT - 10L;
    private static final long FAULTY = NOT - 100L;

    private static final int FINDING_NULL = 1;
    private static final int FINDING_PLACE = 2;
    private static final int FINDING_KIND = 3;
    private static final int FINDING_SIZE = 4;
    private static final int FINDING_STORE = 5;

    private static final int ROWS = 8;
    private static final int LONGEST_ROW = 40;
    private static final int LANES = 3;
    private static final int LONGEST_TAPE = 400;
    private static final int SLOTS = 8;
    private static final int IMAGES = 2;
    private static final int THINGS = 12;
    private static final int SORTS = 5;
    private static final int PAIRS = 8;
    private static final int GREATEST_NUMBER = 199;
    private static final int GREATEST_HIGH = 9;
    private static final long LONGEST = 1000000000000000L;
    private static final int MOST_SAID = 20;
    private static final int BY_OTHER = 20;
    private static final int GREATEST_PLUS = 2000;
    private static final int MOST_DEALT = 6;
    private static final int MOST_TOLD = 4;
    private static final int MOST_OFTEN = 3;
    private static final int LONGEST_TRACE = 16;

    private static final int SAYING = 0;
    private static final int GOOD = 1;
    private static final int WORD = 2;
    private static final int FALSE = 3;
    private static final int NOISE = 4;
    private static final int CHANT = 5;
    private static final int KINDS = 6;
    /** What a SAYING of each KIND is one of, too; -1 for what is the widest. */
    private static final int[] WIDER = {-1, SAYING, GOOD, SAYING, FALSE, GOOD};

    private static final int SIZE = 0;
    private static final int MARK = 1;
    /** The BODY told for each KIND; 0 where none is. */
    private static final int[] SIZE_BODIES = {10, 11, 12, 13, 0, 14};
    private static final int[] MARK_BODIES = {20, 21, 23, 24, 22, 0};
    private static final int DEEPEST_BODY = 20;

    private static final long[] UNITS = {
        1L, 10L, 100L, 1000L, 10000L, 100000L, 1000000L, 10000000L,
        100000000L, 1000000000L, 10000000000L, 100000000000L,
        1000000000000L, 10000000000000L, 100000000000000L, 1000000000000000L};

    private final Row[] rows = new Row[ROWS];
    private final Tape tape = new Tape();
    private final Tongue draft = new Tongue();
    private final Reader reader = new Reader(tape, draft);
    private final Speech now = new Speech();
    private final Speech[] images = new Speech[IMAGES];
    private final Parts parts = new Parts();
    private final Judge judge = new Judge();
    private final Picker picker = new Picker();
    private final Dealing dealing = new Dealing();
    private final Asking asking = new Asking();
    private int latestFault;
    private int latestFinding;

    public SaidByTimes() {
        for (int r = 0; r < rows.length; r++) {
            rows[r] = new Row();
        }
        for (int k = 0; k < images.length; k++) {
            images[k] = new Speech();
        }
    }

    // ---- rows

    public long row(int row, int lane, int n) {
        Row made = rowAt(row);
        if (made == null || lane < 0 || lane >= LANES || n > LONGEST_ROW) {
            return BAD;
        }
        if (n < 0) {
            return found(FINDING_SIZE);
        }
        made.begin(lane, n);
        return fine(n);
    }

    public long set(int row, int i, int v) {
        Row changed = rowAt(row);
        if (changed == null) {
            return BAD;
        }
        if (!changed.there) {
            return found(FINDING_NULL);
        }
        if (!changed.holds(i, 1)) {
            return found(FINDING_PLACE);
        }
        changed.change(i, v);
        return fine(changed.item(i));
    }

    public long copy(int a, int i, int b, int j, int n) {
        Row from = rowAt(a);
        Row to = rowAt(b);
        if (from == null || to == null) {
            return BAD;
        }
        if (!from.there || !to.there) {
            return found(FINDING_NULL);
        }
        if (from.lane != to.lane) {
            return found(FINDING_STORE);
        }
        if (!from.holds(i, n) || !to.holds(j, n)) {
            return found(FINDING_PLACE);
        }
        System.arraycopy(from.items, i, to.items, j, n);
        return fine(n);
    }

    public long drop(int row) {
        Row dropped = rowAt(row);
        if (dropped == null) {
            return BAD;
        }
        if (!dropped.there) {
            return found(FINDING_NULL);
        }
        dropped.there = false;
        return fine(dropped.size);
    }

    // ---- tongues, sayings

    public long feed(long w, int n) {
        if (n < 1 || n > 8) {
            return BAD;
        }
        if (!tape.hasRoomFor(n)) {
            return FULL;
        }
        for (int k = n - 1; k >= 0; k--) {
            tape.add((byte) (w >>> (8 * k)));
        }
        return tape.used;
    }

    public long tongue() {
        boolean read = reader.readAll();
        tape.used = 0;
        if (!read) {
            latestFault = reader.fault;
            return FAULTY - reader.place;
        }
        now.begin(draft);
        judge.forget();
        return draft.things;
    }

    public int fault() {
        return latestFault;
    }

    public long put(int slot, long saying) {
        if (!isSlot(slot) || saying < 1 || saying > LONGEST) {
            return BAD;
        }
        now.keep(slot, saying);
        return 1;
    }

    public long say(int slot, int row, int i, int n) {
        Row from = rowAt(row);
        if (!isSlot(slot) || from == null || n < 0 || n > MOST_SAID) {
            return BAD;
        }
        if (!from.there) {
            return found(FINDING_NULL);
        }
        if (!from.holds(i, n)) {
            return found(FINDING_PLACE);
        }
        long made = madeOf(from, i, n);
        if (made < 1) {
            return made;
        }
        now.keep(slot, made);
        return fine(made);
    }

    public long said(int slot) {
        if (!isSlot(slot)) {
            return BAD;
        }
        long saying = now.held(slot);
        return saying == 0 ? NONE : saying;
    }

    public long apart(int slot, int thing) {
        if (!isSlot(slot) || thing < -2 || thing >= now.tongue.things) {
            return BAD;
        }
        if (!takeApart(slot)) {
            return STATE;
        }
        if (thing == -2) {
            return parts.good ? 1 : 0;
        }
        return thing == -1 ? parts.rest : at(parts.often, thing);
    }

    // ---- of two, heard, dealt

    public long both(int a, int b, int what) {
        if (!isSlot(a) || !isSlot(b) || what < 0 || what > 2) {
            return BAD;
        }
        long one = now.held(a);
        long other = now.held(b);
        if (one == 0 || other == 0) {
            return STATE;
        }
        if (what == 0) {
            return shared(one, other);
        }
        return what == 1 ? either(one, other) : oneNotTheOther(one, other);
    }

    public long heard(int slot, int i) {
        if (!isSlot(slot) || i < -1) {
            return BAD;
        }
        long saying = now.held(slot);
        if (saying == 0) {
            return STATE;
        }
        picker.begin(i);
        for (int p = UNITS.length - 1; p >= 0; p--) {
            offerLessAt(saying, UNITS[p]);
        }
        for (int p = 0; p < UNITS.length; p++) {
            offerMoreAt(saying, UNITS[p]);
        }
        return picker.answer();
    }

    public long dealt(int row, int n, int m, int thing) {
        Row from = rowAt(row);
        if (from == null || n < 2 || n > MOST_DEALT || n > now.tongue.things
                || m < 1 || m > MOST_TOLD || thing < -1 || thing >= n) {
            return BAD;
        }
        if (!from.there) {
            return found(FINDING_NULL);
        }
        if (!from.holds(0, n * m)) {
            return found(FINDING_PLACE);
        }
        if (!dealing.isTold(from, n, m)) {
            return BAD;
        }
        dealing.dealAll(now.tongue);
        if (dealing.least == 0) {
            return fine(NONE);
        }
        return fine(thing == -1 ? dealing.least : at(dealing.best, thing));
    }

    public long secret(int s, int others) {
        if (!isSlot(s) || others < 0 || others >= 1 << SLOTS) {
            return BAD;
        }
        long saying = now.held(s);
        if (saying == 0) {
            return STATE;
        }
        int asked = others & now.heldBits() & ~(1 << s);
        int best = -1;
        for (int some = 0; some < 1 << SLOTS; some++) {
            boolean fewer = best < 0 || Integer.bitCount(some) < Integer.bitCount(best);
            if (fewer && (some & ~asked) == 0 && knownBy(some, saying) == saying) {
                best = some;
            }
        }
        return best < 0 ? NONE : best;
    }

    public long signed(int slot, int who) {
        if (!isSlot(slot) || who < -1 || who >= 1 << THINGS) {
            return BAD;
        }
        if (!takeApart(slot)) {
            return STATE;
        }
        int standing = parts.standingBits();
        return who == -1 ? standing : who & ~standing;
    }

    public long plus(int n, int i) {
        if (now.tongue.things == 0) {
            return STATE;
        }
        if (n < 2 || n > GREATEST_PLUS || i < -1) {
            return BAD;
        }
        picker.begin(i);
        for (int one = 1; one <= n / 2; one++) {
            if (judge.isGood(now.tongue, one) && judge.isGood(now.tongue, n - one)) {
                picker.offer(one);
            }
        }
        return picker.answer();
    }

    public long same(int slot) {
        if (!isSlot(slot)) {
            return BAD;
        }
        if (!takeApart(slot)) {
            return STATE;
        }
        return parts.rest == 1 ? waysFrom(now.tongue, parts.often, 0, leastOfSameMeaning()) : NONE;
    }

    public long image(int k) {
        Speech kept = imageAt(k);
        if (kept == null) {
            return BAD;
        }
        if (now.tongue.things == 0) {
            return STATE;
        }
        kept.become(now);
        return 1;
    }

    public long restore(int k) {
        Speech kept = imageAt(k);
        if (kept == null) {
            return BAD;
        }
        // An IMAGE always has a TONGUE, so one without was never kept.
        if (kept.tongue.things == 0) {
            return STATE;
        }
        now.become(kept);
        judge.forget();
        return 1;
    }

    // ---- asked

    public long kind(int slot) {
        if (!isSlot(slot)) {
            return BAD;
        }
        return takeApart(slot) ? parts.toldAs() : STATE;
    }

    public long as(int slot, int kind) {
        if (!isSlot(slot) || kind < 0 || kind >= KINDS) {
            return BAD;
        }
        if (!takeApart(slot)) {
            return STATE;
        }
        int is = parts.toldAs();
        for (int step = 0; step < KINDS && is >= 0; step++) {
            if (is == kind) {
                return fine(slot);
            }
            is = wider(is);
        }
        return found(FINDING_KIND);
    }

    public long ask(int slot, int what) {
        if (!isSlot(slot) || what < SIZE || what > MARK) {
            return BAD;
        }
        if (!takeApart(slot)) {
            return STATE;
        }
        asking.begin(slot, now.held(slot), parts);
        return asking.answer(what);
    }

    public int trace(int i) {
        return i >= 0 && i < asking.begun ? at(asking.bodies, i) : NONE;
    }

    public long count(int what) {
        switch (what) {
            case 0:
                return rowsThere();
            case 1:
                return now.tongue.things;
            case 2:
                return now.tongue.rules;
            case 3:
                return now.tongue.pairs;
            case 4:
                return Integer.bitCount(now.heldBits());
            case 5:
                return tape.used;
            default:
                return BAD;
        }
    }

    public int status() {
        return latestFinding;
    }

    // ---- refusals and findings

    private long found(int finding) {
        latestFinding = finding;
        return FOUND - finding;
    }

    private long fine(long answer) {
        latestFinding = 0;
        return answer;
    }

    private Row rowAt(int row) {
        return row >= 0 && row < rows.length ? rows[row] : null;
    }

    private Speech imageAt(int k) {
        return k >= 0 && k < images.length ? images[k] : null;
    }

    private int rowsThere() {
        int there = 0;
        for (int r = 0; r < rows.length; r++) {
            Row one = rows[r];
            if (one != null && one.there) {
                there++;
            }
        }
        return there;
    }

    private static boolean isSlot(int slot) {
        return slot >= 0 && slot < SLOTS;
    }

    private static int at(int[] numbers, int i) {
        return numbers != null && i >= 0 && i < numbers.length ? numbers[i] : 0;
    }

    private static void store(int[] numbers, int i, int v) {
        if (numbers != null && i >= 0 && i < numbers.length) {
            numbers[i] = v;
        }
    }

    // ---- sayings

    /** False where the SLOT holds none: then there is nothing to take apart. */
    private boolean takeApart(int slot) {
        long saying = now.held(slot);
        if (saying == 0) {
            return false;
        }
        parts.take(now.tongue, saying);
        return true;
    }

    /** The number, BAD or FULL; every ITEM is looked at first, as BAD goes ahead of FULL. */
    private long madeOf(Row from, int i, int n) {
        for (int k = 0; k < n; k++) {
            if (now.tongue.numberOf(from.item(i + k)) == 0) {
                return BAD;
            }
        }
        long made = 1;
        for (int k = 0; k < n; k++) {
            made *= now.tongue.numberOf(from.item(i + k));
            if (made > LONGEST) {
                return FULL;
            }
        }
        return made;
    }

    private static long shared(long a, long b) {
        long greater = a;
        long less = b;
        // Each second step halves it at least, so 128 are more than a long can need.
        for (int step = 0; step < 128 && less != 0; step++) {
            long rest = greater % less;
            greater = less;
            less = rest;
        }
        return greater;
    }

    private static long oneNotTheOther(long one, long other) {
        long both = shared(one, other);
        return both > 0 ? one / both : one;
    }

    private static long either(long one, long other) {
        long added = oneNotTheOther(one, other);
        return added > 0 && other <= LONGEST / added ? added * other : NONE;
    }

    /** What some SLOTS know of a SAYING together. */
    private long knownBy(int some, long saying) {
        long known = 1;
        for (int slot = 0; slot < SLOTS; slot++) {
            if ((some >> slot & 1) == 1) {
                known = either(known, shared(saying, now.held(slot)));
            }
        }
        return known;
    }

    // ---- heard: less ones from the first figure on, then greater ones from the last

    private void offerLessAt(long saying, long unit) {
        if (unit > saying || unit < 1) {
            return;
        }
        long figure = saying / unit % 10;
        boolean leads = saying / unit < 10;
        for (long less = leads ? 1 : 0; less < figure; less++) {
            offerGood(saying - (figure - less) * unit);
        }
    }

    private void offerMoreAt(long saying, long unit) {
        if (unit > saying || unit < 1) {
            return;
        }
        long figure = saying / unit % 10;
        for (long more = figure + 1; more < 10; more++) {
            offerGood(saying + (more - figure) * unit);
        }
    }

    private void offerGood(long saying) {
        if (judge.isGood(now.tongue, saying)) {
            picker.offer(saying);
        }
    }

    // ---- same

    /** The least SAYING that means the same: each THING by the lesser of its NUMBERS. */
    private long leastOfSameMeaning() {
        long made = 1;
        for (int t = 0; t < now.tongue.things; t++) {
            for (int k = 0; k < at(parts.often, t); k++) {
                made *= now.tongue.lesserNumber(t);
            }
        }
        return made;
    }

    /**
     * How many SAYINGS come from one when the THINGS from t on take their greater NUMBER
     * some times; it only grows so, and what is TOO LONG need not be followed.
     */
    private static long waysFrom(Tongue tongue, int[] often, int t, long least) {
        if (t >= tongue.things || t >= THINGS) {
            return 1;
        }
        long ways = waysFrom(tongue, often, t + 1, least);
        int lesser = tongue.lesserNumber(t);
        int greater = tongue.greaterNumber(t);
        if (lesser == greater || lesser == 0) {
            return ways;
        }
        long made = least;
        for (int k = 0; k < at(often, t); k++) {
            made = made / lesser * greater;
            if (made > LONGEST) {
                break;
            }
            ways += waysFrom(tongue, often, t + 1, made);
        }
        return ways;
    }

    private static int wider(int kind) {
        return kind >= 0 && kind < WIDER.length ? WIDER[kind] : -1;
    }

    /** A ROW. It is made once and used again: all calls share one room. */
    private static final class Row {
        boolean there;
        int lane;
        int size;
        final int[] items = new int[LONGEST_ROW];

        void begin(int newLane, int newSize) {
            there = true;
            lane = newLane;
            size = newSize;
            for (int i = 0; i < items.length; i++) {
                items[i] = 0;
            }
        }

        boolean holds(int from, int n) {
            return from >= 0 && n >= 0 && (long) from + n <= size;
        }

        int item(int i) {
            return at(items, i);
        }

        void change(int i, int v) {
            store(items, i, lane == 0 ? (byte) v : lane == 1 ? (short) v : v);
        }
    }

    /** THE TAPE. */
    private static final class Tape {
        int used;
        final byte[] bytes = new byte[LONGEST_TAPE];

        boolean hasRoomFor(int n) {
            return used + n <= bytes.length;
        }

        void add(byte b) {
            if (used >= 0 && used < bytes.length) {
                bytes[used] = b;
                used++;
            }
        }

        /** -1 at the end. */
        int byteAt(int i) {
            return i >= 0 && i < used && i < bytes.length ? bytes[i] & 255 : -1;
        }
    }

    /** Reads the tape into a draft, so that a FAULT leaves the TONGUE that stands alone. */
    private static final class Reader {
        private static final int END = 0;
        private static final int BLANK = 1;
        private static final int NAME = 2;
        private static final int NUMBER = 3;
        private static final int SIGN = 4;
        private static final int STRANGE = 5;
        private static final int MOST_FIGURES = 3;

        final Tape tape;
        final Tongue draft;
        int token;
        int begin;
        int end;
        int value;
        int fault;
        int place;

        Reader(Tape tape, Tongue draft) {
            this.tape = tape;
            this.draft = draft;
        }

        boolean readAll() {
            fault = 0;
            end = 0;
            draft.clear();
            next();
            if (!isWord("thing")) {
                fail(1);
            }
            for (int k = 0; k <= THINGS && fault == 0 && isWord("thing"); k++) {
                readThing();
            }
            for (int k = 0; k <= SORTS && fault == 0 && isWord("rule"); k++) {
                readRule();
            }
            for (int k = 0; k <= PAIRS && fault == 0 && isWord("pair"); k++) {
                readPair();
            }
            if (fault == 0 && token != END) {
                fail(1);
            }
            return fault == 0;
        }

        void readThing() {
            if (draft.things >= THINGS) {
                fail(3);
                return;
            }
            next();
            int first = readNumber(2, GREATEST_NUMBER, isNew(0));
            int other = 0;
            if (fault == 0 && isWord("or")) {
                next();
                other = readNumber(2, GREATEST_NUMBER, isNew(first));
            }
            int sort = readNumber(0, SORTS - 1, true);
            readSign();
            if (fault == 0) {
                draft.addThing(first, other, sort);
            }
        }

        void readRule() {
            next();
            int sort = readNumber(0, SORTS - 1, !draft.hasRule(value));
            int low = readNumber(0, GREATEST_HIGH, true);
            int high = readNumber(low, GREATEST_HIGH, true);
            readSign();
            if (fault == 0) {
                draft.addRule(sort, low, high);
            }
        }

        void readPair() {
            if (draft.pairs >= PAIRS) {
                fail(3);
                return;
            }
            next();
            int one = readNumber(0, draft.things - 1, true);
            int two = readNumber(0, draft.things - 1, value != one);
            readSign();
            if (fault == 0) {
                draft.addPair(one, two);
            }
        }

        /** If a THING can have the NUMBER that stands next, as its second one unlike the first. */
        boolean isNew(int first) {
            return value != first && isPrime(value) && !draft.tells(value);
        }

        int readNumber(int low, int high, boolean fits) {
            if (fault == 0 && token != NUMBER) {
                fail(1);
            }
            if (fault == 0 && (value < low || value > high || !fits)) {
                fail(2);
            }
            if (fault != 0) {
                return 0;
            }
            int read = value;
            next();
            return read;
        }

        void readSign() {
            if (fault == 0 && token != SIGN) {
                fail(1);
            }
            if (fault == 0) {
                next();
            }
        }

        void fail(int number) {
            fault = number;
            place = begin;
        }

        void next() {
            begin = pastRun(end, BLANK);
            token = typeOf(tape.byteAt(begin));
            end = token == NAME || token == NUMBER ? pastRun(begin, token) : begin;
            if (token == SIGN) {
                end = begin + 1;
            }
            if (token == NUMBER && end - begin > MOST_FIGURES) {
                token = STRANGE;
            }
            value = token == NUMBER ? figures() : -1;
        }

        int pastRun(int from, int type) {
            int i = from;
            while (i < LONGEST_TAPE && typeOf(tape.byteAt(i)) == type) {
                i++;
            }
            return i;
        }

        int figures() {
            int number = 0;
            for (int i = begin; i < end; i++) {
                number = number * 10 + tape.byteAt(i) - '0';
            }
            return number;
        }

        static int typeOf(int b) {
            if (b < 0) {
                return END;
            }
            if (b == ' ' || b == '\n') {
                return BLANK;
            }
            if (b >= 'a' && b <= 'z') {
                return NAME;
            }
            if (b >= '0' && b <= '9') {
                return NUMBER;
            }
            return b == ';' ? SIGN : STRANGE;
        }

        boolean isWord(String word) {
            if (token != NAME || end - begin != word.length()) {
                return false;
            }
            for (int i = 0; i < word.length(); i++) {
                if (tape.byteAt(begin + i) != word.charAt(i)) {
                    return false;
                }
            }
            return true;
        }

        static boolean isPrime(int n) {
            for (int d = 2; d * d <= n && d <= GREATEST_NUMBER; d++) {
                if (n % d == 0) {
                    return false;
                }
            }
            return n > 1;
        }
    }

    /** A TONGUE; none, where it has no THINGS. */
    private static final class Tongue {
        int things;
        int rules;
        int pairs;
        final int[] firsts = new int[THINGS];
        /** 0 for a THING that has no second NUMBER. */
        final int[] others = new int[THINGS];
        final int[] sorts = new int[THINGS];
        final int[] ruled = new int[SORTS];
        final int[] lows = new int[SORTS];
        final int[] highs = new int[SORTS];
        final int[] ones = new int[PAIRS];
        final int[] twos = new int[PAIRS];

        void clear() {
            things = 0;
            rules = 0;
            pairs = 0;
        }

        void addThing(int first, int other, int sort) {
            store(firsts, things, first);
            store(others, things, other);
            store(sorts, things, sort);
            things++;
        }

        void addRule(int sort, int low, int high) {
            store(ruled, rules, sort);
            store(lows, rules, low);
            store(highs, rules, high);
            rules++;
        }

        void addPair(int one, int two) {
            store(ones, pairs, one);
            store(twos, pairs, two);
            pairs++;
        }

        void become(Tongue from) {
            clear();
            for (int t = 0; t < from.things; t++) {
                addThing(from.first(t), from.other(t), at(from.sorts, t));
            }
            for (int r = 0; r < from.rules; r++) {
                addRule(at(from.ruled, r), at(from.lows, r), at(from.highs, r));
            }
            for (int p = 0; p < from.pairs; p++) {
                addPair(at(from.ones, p), at(from.twos, p));
            }
        }

        int first(int thing) {
            return thing < things ? at(firsts, thing) : 0;
        }

        int other(int thing) {
            return thing < things ? at(others, thing) : 0;
        }

        int lesserNumber(int thing) {
            return other(thing) == 0 ? first(thing) : Math.min(first(thing), other(thing));
        }

        int greaterNumber(int thing) {
            return Math.max(first(thing), other(thing));
        }

        /** The NUMBER that an ITEM of a list of THINGS stands for; 0: the ITEM is none. */
        int numberOf(int item) {
            return item < BY_OTHER ? first(item) : other(item - BY_OTHER);
        }

        boolean tells(int number) {
            for (int t = 0; t < things; t++) {
                if (first(t) == number || other(t) == number) {
                    return true;
                }
            }
            return false;
        }

        boolean hasRule(int sort) {
            for (int r = 0; r < rules; r++) {
                if (at(ruled, r) == sort) {
                    return true;
                }
            }
            return false;
        }
    }

    /** What an IMAGE keeps: a TONGUE, and the SLOTS. */
    private static final class Speech {
        final Tongue tongue = new Tongue();
        /** 0 in a SLOT that holds none. */
        private final long[] slots = new long[SLOTS];

        void begin(Tongue from) {
            tongue.become(from);
            for (int slot = 0; slot < SLOTS; slot++) {
                keep(slot, 0);
            }
        }

        void become(Speech from) {
            tongue.become(from.tongue);
            for (int slot = 0; slot < SLOTS; slot++) {
                keep(slot, from.held(slot));
            }
        }

        void keep(int slot, long saying) {
            if (slot >= 0 && slot < slots.length) {
                slots[slot] = saying;
            }
        }

        long held(int slot) {
            return slot >= 0 && slot < slots.length ? slots[slot] : 0;
        }

        int heldBits() {
            int bits = 0;
            for (int slot = 0; slot < SLOTS; slot++) {
                if (held(slot) != 0) {
                    bits |= 1 << slot;
                }
            }
            return bits;
        }
    }

    /** A SAYING TAKEN APART. */
    private static final class Parts {
        final int[] often = new int[THINGS];
        long rest;
        int standing;
        boolean good;

        void take(Tongue tongue, long saying) {
            rest = saying;
            standing = 0;
            for (int t = 0; t < THINGS; t++) {
                int times = takeOut(tongue.first(t)) + takeOut(tongue.other(t));
                store(often, t, times);
                standing += times;
            }
            good = rest == 1 && keepsRules(tongue) && keepsPairs(tongue);
        }

        private int takeOut(int number) {
            int times = 0;
            while (number > 1 && times < 64 && rest % number == 0) {
                rest /= number;
                times++;
            }
            return times;
        }

        private boolean keepsRules(Tongue tongue) {
            for (int r = 0; r < tongue.rules; r++) {
                int together = 0;
                for (int t = 0; t < tongue.things; t++) {
                    if (at(tongue.sorts, t) == at(tongue.ruled, r)) {
                        together += at(often, t);
                    }
                }
                if (together < at(tongue.lows, r) || together > at(tongue.highs, r)) {
                    return false;
                }
            }
            return true;
        }

        private boolean keepsPairs(Tongue tongue) {
            for (int p = 0; p < tongue.pairs; p++) {
                if (at(often, at(tongue.ones, p)) > 0 && at(often, at(tongue.twos, p)) > 0) {
                    return false;
                }
            }
            return true;
        }

        int standingBits() {
            int bits = 0;
            for (int t = 0; t < THINGS; t++) {
                if (at(often, t) > 0) {
                    bits |= 1 << t;
                }
            }
            return bits;
        }

        int toldAs() {
            if (rest != 1) {
                return NOISE;
            }
            if (!good) {
                return FALSE;
            }
            if (standing == 1) {
                return WORD;
            }
            for (int t = 0; t < THINGS; t++) {
                if (at(often, t) >= 3) {
                    return CHANT;
                }
            }
            return GOOD;
        }
    }

    /** Tells GOOD numbers, and remembers of the ones that plus() asks for again and again. */
    private static final class Judge {
        private static final int UNKNOWN = 0;
        private static final int YES = 1;
        private static final int NO = 2;

        private final int[] known = new int[GREATEST_PLUS + 1];
        private final Parts parts = new Parts();

        void forget() {
            for (int n = 0; n < known.length; n++) {
                known[n] = UNKNOWN;
            }
        }

        boolean isGood(Tongue tongue, long n) {
            if (n < 1 || n > LONGEST) {
                return false;
            }
            if (n >= known.length) {
                parts.take(tongue, n);
                return parts.good;
            }
            int small = (int) n;
            if (known[small] == UNKNOWN) {
                parts.take(tongue, n);
                known[small] = parts.good ? YES : NO;
            }
            return known[small] == YES;
        }
    }

    /** Of what is offered in order: how many (wanted is -1), or the one wanted. */
    private static final class Picker {
        private int wanted;
        private int offered;
        private long picked;

        void begin(int which) {
            wanted = which;
            offered = 0;
            picked = NONE;
        }

        void offer(long saying) {
            if (offered == wanted) {
                picked = saying;
            }
            offered++;
        }

        long answer() {
            return wanted == -1 ? offered : picked;
        }
    }

    /** The dealings of NUMBERS to THINGS, tried the first by THINGS first. */
    private static final class Dealing {
        private final int[] told = new int[MOST_DEALT * MOST_TOLD];
        private final int[] gets = new int[MOST_DEALT];
        /** For each depth the told sayings, made of the THINGS that have been dealt by then. */
        private final long[] made = new long[(MOST_DEALT + 1) * MOST_TOLD];
        private int things;
        private int sayings;
        final int[] best = new int[MOST_DEALT];
        /** 0 where in each dealing one is TOO LONG. */
        long least;

        /** False if an ITEM is not as told. */
        boolean isTold(Row from, int n, int m) {
            things = n;
            sayings = m;
            for (int i = 0; i < n * m; i++) {
                int often = from.item(i);
                if (often < 0 || often > MOST_OFTEN) {
                    return false;
                }
                store(told, i, often);
            }
            return true;
        }

        void dealAll(Tongue tongue) {
            least = 0;
            for (int k = 0; k < sayings; k++) {
                keepMade(0, k, 1);
            }
            dealFrom(this, tongue, 0, 0);
        }

        private static void dealFrom(Dealing to, Tongue tongue, int thing, int gone) {
            if (thing >= to.things || thing >= MOST_DEALT) {
                to.compare();
                return;
            }
            for (int from = 0; from < to.things; from++) {
                boolean free = (gone >> from & 1) == 0;
                if (free && to.makes(thing, tongue.first(from))) {
                    store(to.gets, thing, from);
                    dealFrom(to, tongue, thing + 1, gone | 1 << from);
                }
            }
        }

        /** Makes the sayings longer by one THING; false once one is TOO LONG. */
        private boolean makes(int thing, int number) {
            for (int k = 0; k < sayings; k++) {
                long longer = madeAt(thing, k);
                // Looked at each time, as some steps more would be too great for a long.
                for (int n = at(told, k * things + thing); n > 0 && longer <= LONGEST; n--) {
                    longer *= number;
                }
                if (longer > LONGEST) {
                    return false;
                }
                keepMade(thing + 1, k, longer);
            }
            return true;
        }

        private void compare() {
            long sum = 0;
            for (int k = 0; k < sayings; k++) {
                sum += madeAt(things, k);
            }
            if (least == 0 || sum < least) {
                least = sum;
                for (int t = 0; t < things; t++) {
                    store(best, t, at(gets, t));
                }
            }
        }

        private long madeAt(int depth, int saying) {
            int i = depth * MOST_TOLD + saying;
            return i >= 0 && i < made.length ? made[i] : 0;
        }

        private void keepMade(int depth, int saying, long number) {
            int i = depth * MOST_TOLD + saying;
            if (i >= 0 && i < made.length) {
                made[i] = number;
            }
        }
    }

    /** An ASK, and THE TRACE of it. */
    private static final class Asking {
        final int[] bodies = new int[LONGEST_TRACE];
        int begun;
        private int slot;
        private long saying;
        private int standing;
        private int told;

        void begin(int newSlot, long newSaying, Parts parts) {
            begun = 0;
            slot = newSlot;
            saying = newSaying;
            standing = parts.standing;
            told = parts.toldAs();
        }

        long answer(int what) {
            return asked(what, 0);
        }

        private long asked(int what, int depth) {
            return body(nearestBody(what == SIZE ? SIZE_BODIES : MARK_BODIES), depth);
        }

        private int nearestBody(int[] bodiesByKind) {
            int is = told;
            for (int step = 0; step < KINDS && at(bodiesByKind, is) == 0; step++) {
                is = wider(is);
            }
            return at(bodiesByKind, is);
        }

        private long body(int number, int depth) {
            if (depth > DEEPEST_BODY) {
                return 0;
            }
            leaveTrace(number);
            int deeper = depth + 1;
            switch (number) {
                case 10:
                    return standing;
                case 11:
                    return body(10, deeper) + asked(MARK, deeper);
                case 12:
                    return 2 * body(11, deeper);
                case 13:
                    return -body(10, deeper);
                case 14:
                    return -body(11, deeper);
                case 20:
                    return slot;
                case 21:
                    return body(20, deeper) + 10 * (saying % 7);
                case 22:
                    return body(24, deeper) - asked(SIZE, deeper);
                case 23:
                    return body(21, deeper) + 1000;
                case 24:
                    return body(20, deeper) - 100;
                default:
                    return 0;
            }
        }

        private void leaveTrace(int number) {
            if (begun < bodies.length) {
                store(bodies, begun, number);
                begun++;
            }
        }
    }
}
