import java.math.BigInteger;
import java.util.ArrayList;
import java.util.Arrays;
import java.util.HashSet;
import java.util.List;
import java.util.Set;
import java.util.TreeSet;
import java.util.regex.Matcher;
import java.util.regex.Pattern;

/**
 * The document told a second time, slowly and by other ways than the program's: rows are
 * the machine's own arrays, texts go through a regular expression, sets of candidates are
 * built whole and sorted, and what is asked is asked of classes that override.
 */
final class Model {
    private static final long NONE = -1000000L;
    private static final long NOT = -9000000000000000000L;
    private static final long BAD = NOT - 1;
    private static final long STATE = NOT - 2;
    private static final long FULL = NOT - 3;
    private static final BigInteger LONGEST = BigInteger.TEN.pow(15);

    private record Thing(int first, Integer other, int sort) {
    }

    private record Rule(int sort, int low, int high) {
    }

    private record Tongue(List<Thing> things, List<Rule> rules, List<int[]> pairs) {
    }

    private record Image(Tongue tongue, Long[] slots) {
    }

    private final Object[] rows = new Object[8];
    private final StringBuilder tape = new StringBuilder();
    private Tongue tongue;
    private Long[] slots = new Long[8];
    private final Image[] images = new Image[2];
    private final List<Integer> trace = new ArrayList<>();
    private int fault;
    private int status;

    // ---- rows

    private static int size(Object row) {
        return java.lang.reflect.Array.getLength(row);
    }

    private int item(Object row, int i) {
        return ((Number) java.lang.reflect.Array.get(row, i)).intValue();
    }

    private static boolean in(long v, long low, long high) {
        return low <= v && v <= high;
    }

    private long finding(int number) {
        status = number;
        return NOT - 10 - number;
    }

    private long fine(long answer) {
        status = 0;
        return answer;
    }

    long row(int row, int lane, int n) {
        if (!in(row, 0, 7) || !in(lane, 0, 2) || n > 40) {
            return BAD;
        }
        if (n < 0) {
            return finding(4);
        }
        rows[row] = lane == 0 ? new byte[n] : lane == 1 ? (Object) new short[n] : new int[n];
        return fine(n);
    }

    long set(int row, int i, int v) {
        if (!in(row, 0, 7)) {
            return BAD;
        }
        if (rows[row] == null) {
            return finding(1);
        }
        if (!in(i, 0, size(rows[row]) - 1)) {
            return finding(2);
        }
        if (rows[row] instanceof byte[] b) {
            b[i] = (byte) v;
        } else if (rows[row] instanceof short[] s) {
            s[i] = (short) v;
        } else {
            ((int[]) rows[row])[i] = v;
        }
        return fine(item(rows[row], i));
    }

    long copy(int a, int i, int b, int j, int n) {
        if (!in(a, 0, 7) || !in(b, 0, 7)) {
            return BAD;
        }
        try {
            System.arraycopy(rows[a], i, rows[b], j, n);
            return fine(n);
        } catch (NullPointerException e) {
            return finding(1);
        } catch (ArrayStoreException e) {
            return finding(5);
        } catch (IndexOutOfBoundsException e) {
            return finding(2);
        }
    }

    long drop(int row) {
        if (!in(row, 0, 7)) {
            return BAD;
        }
        if (rows[row] == null) {
            return finding(1);
        }
        int n = size(rows[row]);
        rows[row] = null;
        return fine(n);
    }

    // ---- tongues

    long feed(long w, int n) {
        if (!in(n, 1, 8)) {
            return BAD;
        }
        if (tape.length() + n > 400) {
            return FULL;
        }
        byte[] all = BigInteger.valueOf(w).add(BigInteger.ONE.shiftLeft(64)).toByteArray();
        for (int k = all.length - n; k < all.length; k++) {
            tape.append((char) (all[k] & 255));
        }
        return tape.length();
    }

    private static final class Fault extends Exception {
        final int number;
        final int place;

        Fault(int number, int place) {
            this.number = number;
            this.place = place;
        }
    }

    private static final Pattern TOKEN = Pattern.compile("[a-z]+|[0-9]+|;|[ \n]+|[\\s\\S]");

    /** Reads the tape once. */
    private static final class Parser {
        final List<String> tokens = new ArrayList<>();
        final List<Integer> places = new ArrayList<>();
        int at;

        Parser(String text) {
            Matcher m = TOKEN.matcher(text);
            while (m.find()) {
                if (!m.group().isBlank() || !m.group().matches("[ \n]+")) {
                    tokens.add(m.group());
                    places.add(m.start());
                }
            }
            tokens.add("");
            places.add(text.length());
        }

        String token() {
            return tokens.get(at);
        }

        Fault fault(int number) {
            return new Fault(number, places.get(at));
        }

        boolean takes(String word) {
            if (token().equals(word)) {
                at++;
                return true;
            }
            return false;
        }

        void must(String word) throws Fault {
            if (!takes(word)) {
                throw fault(1);
            }
        }

        int number() throws Fault {
            if (!token().matches("[0-9]{1,3}")) {
                throw fault(1);
            }
            return Integer.parseInt(token());
        }

        int number(int low, int high, Set<Integer> not) throws Fault {
            int n = number();
            if (!in(n, low, high) || not.contains(n)) {
                throw fault(2);
            }
            at++;
            return n;
        }

        int prime(Set<Integer> told) throws Fault {
            int n = number();
            if (!in(n, 2, 199) || !BigInteger.valueOf(n).isProbablePrime(50) || !told.add(n)) {
                throw fault(2);
            }
            at++;
            return n;
        }

        Tongue tongue() throws Fault {
            Tongue t = new Tongue(new ArrayList<>(), new ArrayList<>(), new ArrayList<>());
            Set<Integer> told = new HashSet<>();
            Set<Integer> ruled = new HashSet<>();
            while (token().equals("thing") || t.things.isEmpty()) {
                if (t.things.size() == 12) {
                    throw fault(3);
                }
                must("thing");
                int first = prime(told);
                Integer other = takes("or") ? (Integer) prime(told) : null;
                int sort = number(0, 4, Set.of());
                must(";");
                t.things.add(new Thing(first, other, sort));
            }
            while (takes("rule")) {
                int sort = number(0, 4, ruled);
                ruled.add(sort);
                int low = number(0, 9, Set.of());
                int high = number(low, 9, Set.of());
                must(";");
                t.rules.add(new Rule(sort, low, high));
            }
            while (token().equals("pair")) {
                if (t.pairs.size() == 8) {
                    throw fault(3);
                }
                at++;
                int one = number(0, t.things.size() - 1, Set.of());
                int two = number(0, t.things.size() - 1, Set.of(one));
                must(";");
                t.pairs.add(new int[] {one, two});
            }
            must("");
            return t;
        }
    }

    long tongue() {
        String text = tape.toString();
        tape.setLength(0);
        try {
            tongue = new Parser(text).tongue();
            slots = new Long[8];
            return tongue.things.size();
        } catch (Fault f) {
            fault = f.number;
            return NOT - 100 - f.place;
        }
    }

    int fault() {
        return fault;
    }

    // ---- sayings

    private List<Thing> things() {
        return tongue == null ? List.of() : tongue.things;
    }

    /** The primes that go into a number, each as often as it does. */
    private static List<Integer> smallPrimes(long saying) {
        List<Integer> primes = new ArrayList<>();
        long rest = saying;
        for (int p = 2; p < 200; p++) {
            for (; rest % p == 0; rest /= p) {
                primes.add(p);
            }
        }
        return primes;
    }

    private int[] often(long saying) {
        int[] often = new int[things().size()];
        for (int p : smallPrimes(saying)) {
            for (int t = 0; t < often.length; t++) {
                Thing thing = things().get(t);
                if (thing.first == p || thing.other != null && thing.other == p) {
                    often[t]++;
                }
            }
        }
        return often;
    }

    private long rest(long saying) {
        long said = 1;
        for (int p : smallPrimes(saying)) {
            for (Thing thing : things()) {
                if (thing.first == p || thing.other != null && thing.other == p) {
                    said *= p;
                }
            }
        }
        return saying / said;
    }

    private boolean good(long saying) {
        if (saying < 1 || saying > LONGEST.longValue() || rest(saying) != 1) {
            return false;
        }
        if (tongue == null) {
            return true;
        }
        int[] often = often(saying);
        int[] bySort = new int[5];
        for (int t = 0; t < often.length; t++) {
            bySort[things().get(t).sort] += often[t];
        }
        for (Rule rule : tongue.rules) {
            if (!in(bySort[rule.sort], rule.low, rule.high)) {
                return false;
            }
        }
        for (int[] pair : tongue.pairs) {
            if (often[pair[0]] * often[pair[1]] != 0) {
                return false;
            }
        }
        return true;
    }

    long put(int slot, long saying) {
        if (!in(slot, 0, 7) || !in(saying, 1, LONGEST.longValue())) {
            return BAD;
        }
        slots[slot] = saying;
        return 1;
    }

    long say(int slot, int row, int i, int n) {
        if (!in(slot, 0, 7) || !in(row, 0, 7) || !in(n, 0, 20)) {
            return BAD;
        }
        if (rows[row] == null) {
            return finding(1);
        }
        if (i < 0 || (long) i + n > size(rows[row])) {
            return finding(2);
        }
        BigInteger made = BigInteger.ONE;
        for (int k = i; k < i + n; k++) {
            int item = item(rows[row], k);
            int thing = item >= 20 ? item - 20 : item;
            if (!in(thing, 0, things().size() - 1)) {
                return BAD;
            }
            Integer number = item >= 20 ? things().get(thing).other : (Integer) things().get(thing).first;
            if (number == null) {
                return BAD;
            }
            made = made.multiply(BigInteger.valueOf(number));
        }
        if (made.compareTo(LONGEST) > 0) {
            return FULL;
        }
        slots[slot] = made.longValueExact();
        return fine(slots[slot]);
    }

    long said(int slot) {
        return !in(slot, 0, 7) ? BAD : slots[slot] == null ? NONE : slots[slot];
    }

    long apart(int slot, int thing) {
        if (!in(slot, 0, 7) || !in(thing, -2, things().size() - 1)) {
            return BAD;
        }
        if (slots[slot] == null) {
            return STATE;
        }
        long saying = slots[slot];
        return thing >= 0 ? often(saying)[thing] : thing == -1 ? rest(saying) : good(saying) ? 1 : 0;
    }

    // ---- of two, heard, dealt

    private static BigInteger gcd(long a, long b) {
        return BigInteger.valueOf(a).gcd(BigInteger.valueOf(b));
    }

    private static BigInteger lcm(BigInteger a, BigInteger b) {
        return a.multiply(b).divide(a.gcd(b));
    }

    long both(int a, int b, int what) {
        if (!in(a, 0, 7) || !in(b, 0, 7) || !in(what, 0, 2)) {
            return BAD;
        }
        if (slots[a] == null || slots[b] == null) {
            return STATE;
        }
        if (what == 1) {
            BigInteger either = lcm(BigInteger.valueOf(slots[a]), BigInteger.valueOf(slots[b]));
            return either.compareTo(LONGEST) > 0 ? NONE : either.longValueExact();
        }
        long shared = gcd(slots[a], slots[b]).longValueExact();
        return what == 0 ? shared : slots[a] / shared;
    }

    private static long pick(List<Long> sorted, int i) {
        return i == -1 ? sorted.size() : i < sorted.size() ? sorted.get(i) : NONE;
    }

    long heard(int slot, int i) {
        if (!in(slot, 0, 7) || i < -1) {
            return BAD;
        }
        if (slots[slot] == null) {
            return STATE;
        }
        String figures = Long.toString(slots[slot]);
        Set<Long> heard = new TreeSet<>();
        for (int p = 0; p < figures.length(); p++) {
            for (char f = '0'; f <= '9'; f++) {
                String other = figures.substring(0, p) + f + figures.substring(p + 1);
                boolean leadingNothing = other.length() > 1 && other.charAt(0) == '0';
                if (!other.equals(figures) && !leadingNothing && good(Long.parseLong(other))) {
                    heard.add(Long.parseLong(other));
                }
            }
        }
        return pick(new ArrayList<>(heard), i);
    }

    private static void permutations(List<Integer> begun, int n, List<List<Integer>> all) {
        if (begun.size() == n) {
            all.add(begun);
            return;
        }
        for (int next = 0; next < n; next++) {
            if (!begun.contains(next)) {
                List<Integer> longer = new ArrayList<>(begun);
                longer.add(next);
                permutations(longer, n, all);
            }
        }
    }

    long dealt(int row, int n, int m, int thing) {
        if (!in(row, 0, 7) || !in(n, 2, Math.min(6, things().size())) || !in(m, 1, 4) || !in(thing, -1, n - 1)) {
            return BAD;
        }
        if (rows[row] == null) {
            return finding(1);
        }
        if (n * m > size(rows[row])) {
            return finding(2);
        }
        for (int k = 0; k < n * m; k++) {
            if (!in(item(rows[row], k), 0, 3)) {
                return BAD;
            }
        }
        List<List<Integer>> all = new ArrayList<>();
        permutations(List.of(), n, all);
        BigInteger least = null;
        List<Integer> best = null;
        for (List<Integer> dealing : all) {
            BigInteger sum = BigInteger.ZERO;
            boolean tooLong = false;
            for (int k = 0; k < m; k++) {
                BigInteger made = BigInteger.ONE;
                for (int t = 0; t < n; t++) {
                    made = made.multiply(BigInteger.valueOf(things().get(dealing.get(t)).first)
                        .pow(item(rows[row], k * n + t)));
                }
                tooLong |= made.compareTo(LONGEST) > 0;
                sum = sum.add(made);
            }
            if (!tooLong && (least == null || sum.compareTo(least) < 0)) {
                least = sum;
                best = dealing;
            }
        }
        status = 0;
        return least == null ? NONE : thing == -1 ? least.longValueExact() : best.get(thing);
    }

    long secret(int s, int others) {
        if (!in(s, 0, 7) || !in(others, 0, 255)) {
            return BAD;
        }
        if (slots[s] == null) {
            return STATE;
        }
        for (int many = 0; many <= 8; many++) {
            for (int bits = 0; bits < 256; bits++) {
                if (Integer.bitCount(bits) == many && knows(s, others, bits)) {
                    return bits;
                }
            }
        }
        return NONE;
    }

    private boolean knows(int s, int others, int bits) {
        BigInteger known = BigInteger.ONE;
        for (int slot = 0; slot < 8; slot++) {
            if ((bits & 1 << slot) != 0) {
                if (slot == s || slots[slot] == null || (others & 1 << slot) == 0) {
                    return false;
                }
                known = lcm(known, gcd(slots[s], slots[slot]));
            }
        }
        return known.equals(BigInteger.valueOf(slots[s]));
    }

    long signed(int slot, int who) {
        if (!in(slot, 0, 7) || !in(who, -1, 4095)) {
            return BAD;
        }
        if (slots[slot] == null) {
            return STATE;
        }
        int[] often = often(slots[slot]);
        int bits = 0;
        for (int t = 0; t < 12; t++) {
            boolean stands = t < often.length && often[t] > 0;
            if (who == -1 ? stands : (who & 1 << t) != 0 && !stands) {
                bits += 1 << t;
            }
        }
        return bits;
    }

    long plus(int n, int i) {
        if (tongue == null) {
            return STATE;
        }
        if (!in(n, 2, 2000) || i < -1) {
            return BAD;
        }
        List<Long> found = new ArrayList<>();
        for (long one = 1; one <= n - one; one++) {
            if (good(one) && good(n - one)) {
                found.add(one);
            }
        }
        return pick(found, i);
    }

    long same(int slot) {
        if (!in(slot, 0, 7)) {
            return BAD;
        }
        if (slots[slot] == null) {
            return STATE;
        }
        if (rest(slots[slot]) != 1) {
            return NONE;
        }
        int[] often = often(slots[slot]);
        Set<BigInteger> made = new HashSet<>(Set.of(BigInteger.ONE));
        for (int t = 0; t < often.length; t++) {
            Thing thing = things().get(t);
            for (int k = 0; k < often[t]; k++) {
                Set<BigInteger> longer = new HashSet<>();
                for (BigInteger m : made) {
                    longer.add(m.multiply(BigInteger.valueOf(thing.first)));
                    if (thing.other != null) {
                        longer.add(m.multiply(BigInteger.valueOf(thing.other)));
                    }
                }
                longer.removeIf(m -> m.compareTo(LONGEST) > 0);
                made = longer;
            }
        }
        return made.size();
    }

    long image(int k) {
        if (!in(k, 0, 1)) {
            return BAD;
        }
        if (tongue == null) {
            return STATE;
        }
        images[k] = new Image(tongue, slots.clone());
        return 1;
    }

    long restore(int k) {
        if (!in(k, 0, 1)) {
            return BAD;
        }
        if (images[k] == null) {
            return STATE;
        }
        tongue = images[k].tongue;
        slots = images[k].slots.clone();
        return 1;
    }

    // ---- asked: each KIND a class, each BODY a method that overrides

    private class Saying {
        final int slot;
        final long saying;

        Saying(int slot) {
            this.slot = slot;
            this.saying = slots[slot];
        }

        void begins(int body) {
            if (trace.size() < 16) {
                trace.add(body);
            }
        }

        long size() {
            begins(10);
            return Arrays.stream(often(saying)).sum();
        }

        long mark() {
            begins(20);
            return slot;
        }
    }

    private class Good extends Saying {
        Good(int slot) {
            super(slot);
        }

        @Override
        long size() {
            begins(11);
            return super.size() + mark();
        }

        @Override
        long mark() {
            begins(21);
            return super.mark() + 10 * (saying % 7);
        }
    }

    private final class Word extends Good {
        Word(int slot) {
            super(slot);
        }

        @Override
        long size() {
            begins(12);
            return 2 * super.size();
        }

        @Override
        long mark() {
            begins(23);
            return super.mark() + 1000;
        }
    }

    private final class Chant extends Good {
        Chant(int slot) {
            super(slot);
        }

        @Override
        long size() {
            begins(14);
            return -super.size();
        }
    }

    private class False extends Saying {
        False(int slot) {
            super(slot);
        }

        @Override
        long size() {
            begins(13);
            return -super.size();
        }

        @Override
        long mark() {
            begins(24);
            return super.mark() - 100;
        }
    }

    private final class Noise extends False {
        Noise(int slot) {
            super(slot);
        }

        @Override
        long mark() {
            begins(22);
            return super.mark() - size();
        }
    }

    private Saying told(int slot) {
        long saying = slots[slot];
        int[] often = often(saying);
        if (rest(saying) != 1) {
            return new Noise(slot);
        }
        if (!good(saying)) {
            return new False(slot);
        }
        if (Arrays.stream(often).sum() == 1) {
            return new Word(slot);
        }
        return Arrays.stream(often).anyMatch(n -> n > 2) ? new Chant(slot) : new Good(slot);
    }

    private static final List<Class<?>> KINDS =
        List.of(Saying.class, Good.class, Word.class, False.class, Noise.class, Chant.class);

    long kind(int slot) {
        if (!in(slot, 0, 7)) {
            return BAD;
        }
        return slots[slot] == null ? STATE : KINDS.indexOf(told(slot).getClass());
    }

    long as(int slot, int kind) {
        if (!in(slot, 0, 7) || !in(kind, 0, 5)) {
            return BAD;
        }
        if (slots[slot] == null) {
            return STATE;
        }
        return KINDS.get(kind).isInstance(told(slot)) ? fine(slot) : finding(3);
    }

    long ask(int slot, int what) {
        if (!in(slot, 0, 7) || !in(what, 0, 1)) {
            return BAD;
        }
        if (slots[slot] == null) {
            return STATE;
        }
        trace.clear();
        return what == 0 ? told(slot).size() : told(slot).mark();
    }

    int trace(int i) {
        return in(i, 0, trace.size() - 1) ? trace.get(i) : (int) NONE;
    }

    long count(int what) {
        switch (what) {
            case 0:
                return Arrays.stream(rows).filter(r -> r != null).count();
            case 1:
                return things().size();
            case 2:
                return tongue == null ? 0 : tongue.rules.size();
            case 3:
                return tongue == null ? 0 : tongue.pairs.size();
            case 4:
                return Arrays.stream(slots).filter(s -> s != null).count();
            case 5:
                return tape.length();
            default:
                return BAD;
        }
    }

    int status() {
        return status;
    }
}
