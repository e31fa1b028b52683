/** Promises 22 to 27. */
public final class AskedTest {
    private static final String TONGUE =
        "thing 2 0;thing 3 or 7 1;thing 5 0;thing 11 2;rule 2 0 3;pair 0 2;";
    private static final int[][] WIDER = {{0}, {0, 1}, {0, 1, 2}, {0, 3}, {0, 3, 4}, {0, 1, 5}};

    public static void main(String[] args) {
        kind();
        kindRefused();
        as();
        asRefused();
        askedOfGood();
        askedOfWord();
        askedOfFalse();
        askedOfNoise();
        askedOfChant();
        askRefused();
        trace();
        count();
        constants();
        Checks.end();
    }

    private static final long[][] TOLD = {
        {1, 1}, {6, 1}, {4, 1}, {36, 1}, {21, 1}, {49 * 4, 1},
        {2, 2}, {3, 2}, {7, 2}, {11, 2},
        {10, 3}, {11 * 11 * 11 * 11, 3}, {1000, 3}, {30, 3},
        {13, 4}, {26, 4}, {130, 4}, {8 * 17, 4}, {1000000000000000L - 1, 4},
        {8, 5}, {27, 5}, {63, 5}, {147, 5}, {343, 5}, {8 * 9, 5}, {1331, 5}, {562949953421312L, 5}};

    private static void kind() {
        SaidByTimes x = Checks.speaking(TONGUE);
        for (long[] told : TOLD) {
            x.put(2, told[0]);
            Checks.due("kind of " + told[0], x.kind(2), told[1]);
        }
        SaidByTimes many = Checks.speaking("thing 2 0;thing 3 0;thing 5 0;");
        many.put(0, 4 * 9 * 25);
        Checks.due("six THINGS, none of them three times", many.kind(0), 1);
    }

    private static void kindRefused() {
        SaidByTimes x = new SaidByTimes();
        Checks.due("kind(-1)", x.kind(-1), Checks.BAD);
        Checks.due("kind(8)", x.kind(8), Checks.BAD);
        Checks.due("kind(0)", x.kind(0), Checks.STATE);
        x.put(0, 2);
        Checks.due("kind without a TONGUE", x.kind(0), 4);
        x.put(0, 1);
        Checks.due("kind of 1 without a TONGUE", x.kind(0), 1);
    }

    private static void as() {
        SaidByTimes x = Checks.speaking(TONGUE);
        for (long[] told : TOLD) {
            x.put(5, told[0]);
            for (int kind = 0; kind <= 5; kind++) {
                boolean is = false;
                for (int wider : WIDER[(int) told[1]]) {
                    is |= wider == kind;
                }
                Checks.due(told[0] + " as " + kind, x.as(5, kind), is ? 5 : Checks.KIND);
                Checks.due("status after it", x.status(), is ? 0 : 3);
            }
        }
    }

    private static void asRefused() {
        SaidByTimes x = Checks.speaking(TONGUE);
        x.put(0, 2);
        Checks.due("as(-1, 0)", x.as(-1, 0), Checks.BAD);
        Checks.due("as(8, 0)", x.as(8, 0), Checks.BAD);
        Checks.due("as(0, -1)", x.as(0, -1), Checks.BAD);
        Checks.due("as(0, 6)", x.as(0, 6), Checks.BAD);
        Checks.due("as(1, 0)", x.as(1, 0), Checks.STATE);
        Checks.due("as(1, 6)", x.as(1, 6), Checks.BAD);
    }

    private static void ask(SaidByTimes x, int slot, int what, long due, int... bodies) {
        Checks.due("ask(" + slot + ", " + what + ")", x.ask(slot, what), due);
        Checks.trace("ask(" + slot + ", " + what + ")", x, bodies);
    }

    private static void askedOfGood() {
        SaidByTimes x = Checks.speaking(TONGUE);
        x.put(3, 36);
        ask(x, 3, 1, 3 + 10, 21, 20);
        ask(x, 3, 0, 4 + 13, 11, 10, 21, 20);
        x.put(3, 12);
        ask(x, 3, 1, 3 + 50, 21, 20);
        ask(x, 3, 0, 3 + 53, 11, 10, 21, 20);
        x.put(0, 1);
        ask(x, 0, 0, 10, 11, 10, 21, 20);
    }

    private static void askedOfWord() {
        SaidByTimes x = Checks.speaking(TONGUE);
        x.put(4, 5);
        ask(x, 4, 1, 4 + 50 + 1000, 23, 21, 20);
        ask(x, 4, 0, 2 * (1 + 1054), 12, 11, 10, 23, 21, 20);
    }

    private static void askedOfFalse() {
        SaidByTimes x = Checks.speaking(TONGUE);
        x.put(6, 300);
        ask(x, 6, 0, -5, 13, 10);
        ask(x, 6, 1, 6 - 100, 24, 20);
    }

    private static void askedOfNoise() {
        SaidByTimes x = Checks.speaking(TONGUE);
        x.put(7, 12 * 13);
        ask(x, 7, 0, -3, 13, 10);
        ask(x, 7, 1, 7 - 100 + 3, 22, 24, 20, 13, 10);
        SaidByTimes none = new SaidByTimes();
        none.put(1, 12);
        ask(none, 1, 0, 0, 13, 10);
        ask(none, 1, 1, -99, 22, 24, 20, 13, 10);
    }

    private static void askedOfChant() {
        SaidByTimes x = Checks.speaking(TONGUE);
        x.put(2, 24);
        ask(x, 2, 1, 2 + 30, 21, 20);
        ask(x, 2, 0, -(4 + 32), 14, 11, 10, 21, 20);
        x.put(2, 562949953421312L);
        ask(x, 2, 1, 2 + 20, 21, 20);
        ask(x, 2, 0, -(49 + 22), 14, 11, 10, 21, 20);
    }

    private static void askRefused() {
        SaidByTimes x = Checks.speaking(TONGUE);
        x.put(0, 2);
        x.ask(0, 0);
        Checks.due("ask(-1, 0)", x.ask(-1, 0), Checks.BAD);
        Checks.due("ask(8, 0)", x.ask(8, 0), Checks.BAD);
        Checks.due("ask(0, -1)", x.ask(0, -1), Checks.BAD);
        Checks.due("ask(0, 2)", x.ask(0, 2), Checks.BAD);
        Checks.due("ask(1, 2)", x.ask(1, 2), Checks.BAD);
        Checks.due("ask(1, 0)", x.ask(1, 0), Checks.STATE);
        Checks.trace("THE TRACE stays where an ask is refused", x, 12, 11, 10, 23, 21, 20);
        Checks.due("an ask changes no status", x.status(), 0);
    }

    private static void trace() {
        SaidByTimes x = Checks.speaking(TONGUE);
        Checks.due("trace(0) at first", x.trace(0), Checks.NONE);
        x.put(0, 2);
        x.ask(0, 0);
        Checks.due("trace(-1)", x.trace(-1), Checks.NONE);
        Checks.due("trace(6)", x.trace(6), Checks.NONE);
        Checks.due("trace(15)", x.trace(15), Checks.NONE);
        Checks.due("trace(16)", x.trace(16), Checks.NONE);
        Checks.due("trace(greatest)", x.trace(Integer.MAX_VALUE), Checks.NONE);
        Checks.due("trace(least)", x.trace(Integer.MIN_VALUE), Checks.NONE);
        x.ask(0, 1);
        Checks.trace("THE TRACE is empty ahead of an ask", x, 23, 21, 20);
        x.image(0);
        Checks.tongue(x, "thing 3 0;");
        x.restore(0);
        x.kind(0);
        Checks.trace("THE TRACE is changed by asks alone", x, 23, 21, 20);
    }

    private static void count() {
        SaidByTimes x = Checks.speaking(TONGUE + " ");
        x.row(0, 0, 0);
        x.row(7, 1, 40);
        x.put(0, 2);
        x.put(7, 2);
        x.put(3, 1);
        Checks.feed(x, "thing 2 or");
        Checks.due("ROWS", x.count(0), 2);
        Checks.due("THINGS", x.count(1), 4);
        Checks.due("rules", x.count(2), 1);
        Checks.due("pairs", x.count(3), 1);
        Checks.due("SLOTS", x.count(4), 3);
        Checks.due("bytes", x.count(5), 10);
        Checks.due("count(-1)", x.count(-1), Checks.BAD);
        Checks.due("count(6)", x.count(6), Checks.BAD);
    }

    private static void constants() {
        Checks.due("NONE", SaidByTimes.NONE, -1000000);
        Checks.due("NOT", SaidByTimes.NOT, -9000000000000000000L);
    }
}
