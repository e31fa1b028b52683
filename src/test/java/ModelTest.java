import java.util.ArrayList;
import java.util.Collections;
import java.util.List;
import java.util.Random;

/**
 * All promises together: long runs of calls, drawn from fixed seeds, of the program and of
 * the document told a second time (Model); each answer is compared.
 */
public final class ModelTest {
    private static final int RUNS = 1500;
    private static final int CALLS = 512;
    private static final int[] PRIMES = {2, 3, 5, 7, 11, 13, 17, 19, 23, 29, 31, 37, 41, 43, 47, 53,
        59, 61, 67, 71, 73, 79, 83, 89, 97, 101, 103, 107, 109, 113, 127, 131, 137, 139, 149, 151,
        157, 163, 167, 173, 179, 181, 191, 193, 197, 199};

    private final Random random;
    private final int run;
    private final SaidByTimes x = new SaidByTimes();
    private final Model y = new Model();
    private int calls;
    private List<Integer> numbers = new ArrayList<>(List.of(2, 3, 5));

    private ModelTest(int run) {
        this.run = run;
        this.random = new Random(run);
    }

    public static void main(String[] args) {
        for (int run = 0; run < RUNS && Checks.wrongSoFar() == 0; run++) {
            new ModelTest(run).go();
        }
        Checks.end();
    }

    private void go() {
        if (random.nextInt(8) != 0) {
            readTongue();
        }
        while (calls < CALLS && Checks.wrongSoFar() == 0) {
            step();
        }
    }

    private void due(String call, long got, long want) {
        calls++;
        // What later calls answer is free.
        if (calls <= CALLS) {
            Checks.due("run " + run + ", call " + calls + ": " + call, got, want);
        }
    }

    /** A number from low to high, at times beyond or far beyond. */
    private int some(int low, int high) {
        int r = random.nextInt(60);
        if (r == 0) {
            return low - 1;
        }
        if (r == 1) {
            return high + 1;
        }
        if (r == 2) {
            return random.nextInt();
        }
        if (r == 3) {
            return random.nextBoolean() ? Integer.MAX_VALUE : Integer.MIN_VALUE;
        }
        return low + random.nextInt(high - low + 1);
    }

    private int row() {
        return random.nextInt(3) > 0 ? random.nextInt(2) : some(0, 7);
    }

    private int slot() {
        return some(0, 7);
    }

    private void step() {
        switch (random.nextInt(16)) {
            case 0 -> makeRow();
            case 1 -> setItem();
            case 2 -> copyItems();
            case 3 -> putSaying();
            case 4, 5 -> saySaying();
            case 6 -> takeApart();
            case 7 -> ofTwo();
            case 8 -> hear();
            case 9 -> deal();
            case 10 -> secretOrSigned();
            case 11 -> plusOrSame();
            case 12 -> kindOrAs();
            case 13 -> askAndTrace();
            case 14 -> counts();
            default -> seldom();
        }
    }

    private void seldom() {
        switch (random.nextInt(6)) {
            case 0, 1 -> readTongue();
            case 2 -> {
                int k = some(0, 1);
                due("image(" + k + ")", x.image(k), y.image(k));
            }
            case 3 -> {
                int k = some(0, 1);
                due("restore(" + k + ")", x.restore(k), y.restore(k));
            }
            case 4 -> {
                int r = row();
                due("drop(" + r + ")", x.drop(r), y.drop(r));
            }
            default -> {
                long w = random.nextLong();
                int n = some(1, 8);
                due("feed(" + w + ", " + n + ")", x.feed(w, n), y.feed(w, n));
            }
        }
    }

    private void makeRow() {
        int r = row();
        int lane = some(0, 2);
        int n = some(0, 40);
        due("row(" + r + ", " + lane + ", " + n + ")", x.row(r, lane, n), y.row(r, lane, n));
        boolean forDealing = random.nextBoolean();
        for (int i = 0; i < Math.min(n, 24) && random.nextInt(20) > 0; i++) {
            int v = forDealing ? some(0, 3) : random.nextInt(3) > 0 ? some(0, 4) : some(20, 24);
            due("set(" + r + ", " + i + ", " + v + ")", x.set(r, i, v), y.set(r, i, v));
        }
    }

    private void setItem() {
        int r = row();
        int i = some(0, 30);
        int v = random.nextInt(4) > 0 ? some(0, 11) : random.nextInt(2) > 0 ? some(20, 31) : random.nextInt(100000);
        due("set(" + r + ", " + i + ", " + v + ")", x.set(r, i, v), y.set(r, i, v));
    }

    private void copyItems() {
        int a = row();
        int i = some(0, 12);
        int b = row();
        int j = some(0, 12);
        int n = some(0, 12);
        due("copy(" + a + ", " + i + ", " + b + ", " + j + ", " + n + ")",
            x.copy(a, i, b, j, n), y.copy(a, i, b, j, n));
    }

    private void putSaying() {
        int s = slot();
        long saying;
        switch (random.nextInt(6)) {
            case 0 -> saying = random.nextInt(2100) - 20;
            case 1 -> saying = random.nextLong() % 1100000000000000L;
            case 2 -> saying = 1000000000000000L + some(-2, 2);
            default -> saying = made();
        }
        due("put(" + s + ", " + saying + ")", x.put(s, saying), y.put(s, saying));
    }

    /** A number of the TONGUE's own NUMBERS, now and then with a stranger in it. */
    private long made() {
        long made = 1;
        int many = random.nextInt(12);
        for (int k = 0; k < many; k++) {
            int number = numbers.get(random.nextInt(random.nextBoolean() ? Math.min(3, numbers.size()) : numbers.size()));
            if (made > 1000000000000000L / number) {
                break;
            }
            made *= number;
        }
        return random.nextInt(15) == 0 ? made * 211 % 1000000000000000L + 1 : made;
    }

    private void saySaying() {
        int s = slot();
        int r = row();
        int i = random.nextInt(4) > 0 ? some(0, 5) : some(0, 40);
        int n = random.nextInt(4) > 0 ? some(0, 5) : some(0, 20);
        due("say(" + s + ", " + r + ", " + i + ", " + n + ")", x.say(s, r, i, n), y.say(s, r, i, n));
        due("said(" + s + ")", x.said(s), y.said(s));
    }

    private void takeApart() {
        int s = slot();
        int t = some(-2, 11);
        due("apart(" + s + ", " + t + ")", x.apart(s, t), y.apart(s, t));
        due("apart(" + s + ", -2)", x.apart(s, -2), y.apart(s, -2));
    }

    private void ofTwo() {
        int a = slot();
        int b = slot();
        int what = some(0, 2);
        due("both(" + a + ", " + b + ", " + what + ")", x.both(a, b, what), y.both(a, b, what));
    }

    private void hear() {
        int s = slot();
        int i = some(-1, 6);
        due("heard(" + s + ", " + i + ")", x.heard(s, i), y.heard(s, i));
        due("heard(" + s + ", -1)", x.heard(s, -1), y.heard(s, -1));
    }

    private void deal() {
        int r = row();
        int n = some(2, random.nextInt(4) > 0 ? 4 : 6);
        int m = some(1, 4);
        int t = some(-1, 5);
        due("dealt(" + r + ", " + n + ", " + m + ", " + t + ")", x.dealt(r, n, m, t), y.dealt(r, n, m, t));
    }

    private void secretOrSigned() {
        int s = slot();
        int others = some(0, 255);
        due("secret(" + s + ", " + others + ")", x.secret(s, others), y.secret(s, others));
        int who = some(-1, random.nextBoolean() ? 4095 : 0);
        due("signed(" + s + ", " + who + ")", x.signed(s, who), y.signed(s, who));
    }

    private void plusOrSame() {
        if (random.nextInt(4) == 0) {
            int n = random.nextInt(3) > 0 ? some(2, 200) : some(2, 2000);
            int i = some(-1, 5);
            due("plus(" + n + ", " + i + ")", x.plus(n, i), y.plus(n, i));
            return;
        }
        int s = slot();
        due("same(" + s + ")", x.same(s), y.same(s));
    }

    private void kindOrAs() {
        int s = slot();
        int k = some(0, 5);
        due("kind(" + s + ")", x.kind(s), y.kind(s));
        due("as(" + s + ", " + k + ")", x.as(s, k), y.as(s, k));
    }

    private void askAndTrace() {
        int s = slot();
        int what = some(0, 1);
        due("ask(" + s + ", " + what + ")", x.ask(s, what), y.ask(s, what));
        for (int i = 0; i < 7; i++) {
            due("trace(" + i + ")", x.trace(i), y.trace(i));
        }
        int i = some(0, 16);
        due("trace(" + i + ")", x.trace(i), y.trace(i));
    }

    private void counts() {
        int what = some(0, 5);
        due("count(" + what + ")", x.count(what), y.count(what));
        due("status()", x.status(), y.status());
        due("fault()", x.fault(), y.fault());
    }

    private void readTongue() {
        String text = text();
        for (int from = 0; from < text.length(); from += 8) {
            long w = random.nextLong();
            int n = Math.min(8, text.length() - from);
            for (int k = 0; k < n; k++) {
                w = w << 8 | text.charAt(from + k);
            }
            due("feed(" + w + ", " + n + ")", x.feed(w, n), y.feed(w, n));
        }
        due("tongue() of <" + text + ">", x.tongue(), y.tongue());
        due("fault()", x.fault(), y.fault());
        for (int what = 0; what <= 5; what++) {
            due("count(" + what + ")", x.count(what), y.count(what));
        }
    }

    private String text() {
        StringBuilder b = new StringBuilder();
        List<Integer> free = new ArrayList<>();
        for (int p : PRIMES) {
            free.add(p);
        }
        if (random.nextBoolean()) {
            free = new ArrayList<>(free.subList(0, 24));
        }
        Collections.shuffle(free, random);
        int things = 1 + random.nextInt(random.nextInt(3) > 0 ? 5 : 13);
        numbers = new ArrayList<>();
        for (int t = 0; t < things && free.size() > 1; t++) {
            numbers.add(free.remove(0));
            b.append("thing").append(blank(1)).append(numbers.get(numbers.size() - 1)).append(blank(1));
            if (random.nextInt(3) == 0) {
                numbers.add(free.remove(0));
                b.append("or").append(blank(0)).append(numbers.get(numbers.size() - 1)).append(blank(1));
            }
            b.append(random.nextInt(5)).append(blank(0)).append(";").append(blank(0));
        }
        int rules = random.nextInt(4) == 0 ? random.nextInt(4) : random.nextInt(2);
        for (int r = 0; r < rules; r++) {
            int low = random.nextInt(random.nextInt(4) == 0 ? 10 : 2);
            b.append("rule ").append(random.nextInt(12) == 0 ? random.nextInt(6) : r).append(blank(1))
                .append(low).append(blank(1)).append(Math.max(random.nextInt(20) == 0 ? 0 : low,
                    random.nextInt(10))).append(";").append(blank(0));
        }
        int pairs = random.nextInt(3) == 0 ? random.nextInt(10) : random.nextInt(2);
        for (int p = 0; p < pairs && things > 1; p++) {
            int one = random.nextInt(things);
            int two = (one + 1 + random.nextInt(things - 1)) % things;
            b.append("pair ").append(one).append(blank(1)).append(two).append(";").append(blank(0));
        }
        return spoilt(b.toString());
    }

    private String blank(int atLeast) {
        if (random.nextInt(20) > 0) {
            return " ".substring(0, atLeast);
        }
        String[] blanks = {" ", "\n", "  ", " \n "};
        return blanks[random.nextInt(blanks.length)];
    }

    private static final String[] SPOILS = {"", ";", " ", "thing ", "rule ", "pair ", "or ", "0", "1",
        "12", "1000", "x", "?", "\t", "A", "\u00e9", "thing 2 0;", "rule 1 0 0;", "pair 0 1;", "-1"};

    /** The text, or one that differs from it in a place. */
    private String spoilt(String text) {
        if (random.nextInt(3) > 0) {
            return text;
        }
        int from = random.nextInt(text.length());
        int to = Math.min(text.length(), from + random.nextInt(4));
        if (random.nextInt(6) == 0) {
            to = text.length();
        }
        return text.substring(0, from) + SPOILS[random.nextInt(SPOILS.length)] + text.substring(to);
    }
}
