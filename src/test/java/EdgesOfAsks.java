/** What the document says of KINDS and ASKS, a sentence at a time: its Terms, promises 22 to 26. */
final class EdgesOfAsks {
    private static final int LEAST = Integer.MIN_VALUE;
    private static final int GREATEST = Integer.MAX_VALUE;
    /** One that is told as each KIND, by the TONGUE of Ready: GOOD, WORD, FALSE, NOISE, CHANT. */
    private static final long[] TOLD = {0, 36, 3, 10, 13, 8};
    private static final boolean[][] IS = {
        {true, true, true, true, true, true},
        {false, true, true, false, false, true},
        {false, false, true, false, false, false},
        {false, false, false, true, true, false},
        {false, false, false, false, true, false},
        {false, false, false, false, false, true}};

    private EdgesOfAsks() {
    }

    static void all() {
        kinds();
        toldAs();
        bodiesOfSize();
        bodiesOfMark();
        nearestBody();
        kind();
        as();
        ask();
        askRefused();
        trace();
        count();
        countOfTheRest();
    }

    private static void due(String what, long got, long want) {
        Checks.due(what, got, want);
    }

    private static void kindIs(SaidByTimes x, long saying, long due) {
        x.put(2, saying);
        due("kind of " + saying, x.kind(2), due);
    }

    private static void asIs(SaidByTimes x, long saying, int kind, boolean due) {
        x.put(2, saying);
        due(saying + " as " + kind, x.as(2, kind), due ? 2 : Checks.KIND);
    }

    private static void kinds() {
        Document.says("3", "KINDS of SAYINGS (in a SLOT): 0 SAYING;");
        SaidByTimes x = Checks.speaking(Ready.TONGUE);
        for (int kind = 1; kind <= 5; kind++) {
            asIs(x, TOLD[kind], 0, true);
        }
        due("none in a SLOT", x.as(3, 0), Checks.STATE);
        Document.says("3", "1 GOOD, a SAYING;");
        for (long good : new long[] {1, 6, 36, 21, 2, 3, 8, 343}) {
            asIs(x, good, 1, true);
        }
        for (long other : new long[] {10, 14641, 13, 26}) {
            asIs(x, other, 1, false);
        }
        Document.says("3", "2 WORD, a GOOD one: of one THING, once;");
        for (long word : new long[] {2, 3, 7, 5, 11}) {
            asIs(x, word, 2, true);
            asIs(x, word, 1, true);
        }
        for (long other : new long[] {1, 4, 6, 21, 13, 8, 26}) {
            asIs(x, other, 2, false);
        }
        SaidByTimes ruled = Checks.speaking("thing 2 0;thing 3 1;rule 0 1 9;");
        asIs(ruled, 3, 2, false);
        asIs(ruled, 2, 2, true);
        Document.says("3", "3 FALSE, a SAYING: not GOOD;");
        for (long no : new long[] {10, 30, 14641, 13, 26}) {
            asIs(x, no, 3, true);
        }
        for (long other : new long[] {1, 2, 36, 8}) {
            asIs(x, other, 3, false);
        }
        Document.says("3", "4 NOISE, a FALSE one: its REST is not 1;");
        for (long noise : new long[] {13, 26, 169, 211, 130, Checks.LONGEST - 11}) {
            asIs(x, noise, 4, true);
            asIs(x, noise, 3, true);
        }
        for (long other : new long[] {10, 14641, 1, 2, 8}) {
            asIs(x, other, 4, false);
        }
        Document.says("3", "5 CHANT, a GOOD one: some THING stands in it three times or more.");
        for (long chant : new long[] {8, 16, 27, 63, 147, 343, 8 * 9, 125, 1331, 562949953421312L}) {
            asIs(x, chant, 5, true);
            asIs(x, chant, 1, true);
        }
        for (long other : new long[] {1, 4, 36, 36 * 121 / 4, 5, 1000, 8 * 13, 14641}) {
            asIs(x, other, 5, false);
        }
    }

    private static void toldAs() {
        Document.says("3", "It is told as NOISE, else FALSE, else WORD, else CHANT, else GOOD: by this it is asked.");
        SaidByTimes x = Checks.speaking(Ready.TONGUE);
        kindIs(x, 13, 4);
        kindIs(x, 8 * 13, 4);
        kindIs(x, 10 * 13, 4);
        kindIs(x, 10, 3);
        kindIs(x, 1000, 3);
        kindIs(x, 14641, 3);
        kindIs(x, 5, 2);
        kindIs(x, 7, 2);
        kindIs(x, 8, 5);
        kindIs(x, 63, 5);
        kindIs(x, 1, 1);
        kindIs(x, 4, 1);
        kindIs(x, 36 * 49 / 9, 1);
        SaidByTimes one = Checks.speaking("thing 2 0;rule 0 2 9;");
        kindIs(one, 2, 3);
        kindIs(one, 4, 1);
        kindIs(one, 8, 5);
        SaidByTimes silent = new SaidByTimes();
        kindIs(silent, 2, 4);
        kindIs(silent, 1, 1);
        due("asked by NOISE", ask(x, 26, 1), 2 - 100 + 1);
        due("asked by FALSE", ask(x, 10, 1), 2 - 100);
        due("asked by WORD", ask(x, 2, 1), 2 + 20 + 1000);
        due("asked by CHANT", ask(x, 8, 0), -(3 + 2 + 10));
        due("asked by GOOD", ask(x, 4, 0), 2 + 2 + 40);
    }

    /** In SLOT 2. */
    private static long ask(SaidByTimes x, long saying, int what) {
        x.put(2, saying);
        return x.ask(2, what);
    }

    private static void asked(int kind, int slot, int what, long due, int... bodies) {
        SaidByTimes x = Checks.speaking(Ready.TONGUE);
        x.put(slot, TOLD[kind]);
        due("ask(" + slot + ", " + what + ") of KIND " + kind, x.ask(slot, what), due);
        Checks.trace("of KIND " + kind + ", " + what, x, bodies);
    }

    private static void bodiesOfSize() {
        Document.says("4", "ASKS of SAYINGS, by BODIES, each of which leaves its number in THE TRACE as it begins"
            + " (the first 16):");
        asked(2, 1, 0, 2 * (1 + 1031), 12, 11, 10, 23, 21, 20);
        asked(4, 1, 1, 1 - 100 + 0, 22, 24, 20, 13, 10);
        Document.says("4", "0 SIZE: 10 lent to all SAYINGS: how many THINGS stand in it, each as often as it does.");
        SaidByTimes x = Checks.speaking("thing 2 or 5 0;thing 3 0;rule 0 0 0;");
        due("none", ask(x, 1, 0), 0 + 2 + 10);
        due("one, three times", ask(x, 8, 0), -3);
        due("one, by both its NUMBERS", ask(x, 40, 0), -4);
        due("two", ask(x, 72, 0), -5);
        due("beside a REST", ask(x, 72 * 7, 0), -5);
        due("none beside a REST", ask(x, 7, 0), 0);
        due("49 times", ask(x, 562949953421312L, 0), -49);
        Document.says("4", "11 of GOOD ones: what 10 gives, and MARK.");
        asked(1, 0, 0, 4 + 0 + 10, 11, 10, 21, 20);
        asked(1, 7, 0, 4 + 7 + 10, 11, 10, 21, 20);
        Document.says("4", "12 of WORDS: twice what 11 gives (asked once).");
        asked(2, 0, 0, 2 * (1 + 0 + 30 + 1000), 12, 11, 10, 23, 21, 20);
        asked(2, 7, 0, 2 * (1 + 7 + 30 + 1000), 12, 11, 10, 23, 21, 20);
        Document.says("4", "13 of FALSE ones: 0 less what 10 gives.");
        asked(3, 0, 0, -2, 13, 10);
        asked(4, 7, 0, 0, 13, 10);
        Document.says("4", "14 of CHANTS: 0 less what 11 gives.");
        asked(5, 0, 0, -(3 + 0 + 10), 14, 11, 10, 21, 20);
        asked(5, 7, 0, -(3 + 7 + 10), 14, 11, 10, 21, 20);
    }

    private static void bodiesOfMark() {
        Document.says("4", "1 MARK: 20 lent to all SAYINGS: its SLOT.");
        for (int slot = 0; slot <= 7; slot++) {
            asked(3, slot, 1, slot - 100, 24, 20);
        }
        Document.says("4", "21 of GOOD ones: what 20 gives, and 10 times the rest of the SAYING by 7.");
        SaidByTimes x = Checks.speaking("thing 2 0;thing 3 0;thing 7 0;");
        due("1 by 7", ask(x, 1, 1), 2 + 10);
        due("6 by 7", ask(x, 6, 1), 2 + 60);
        due("49 by 7", ask(x, 49, 1), 2);
        due("9 by 7", ask(x, 9, 1), 2 + 20);
        due("2 by itself 49 times by 7", ask(x, 562949953421312L, 1), 2 + 20);
        due("a great one by 7", ask(x, 205891132094649L, 1), 2 + 10);
        asked(1, 5, 1, 5 + 10, 21, 20);
        Document.says("4", "22 of NOISE: what 24 gives, less SIZE.");
        asked(4, 0, 1, 0 - 100 + 0, 22, 24, 20, 13, 10);
        due("less SIZE, which is below 0", ask(x, 12 * 13, 1), 2 - 100 + 3);
        Checks.trace("of NOISE", x, 22, 24, 20, 13, 10);
        Document.says("4", "23 of WORDS: what 21 gives, and 1000.");
        asked(2, 0, 1, 30 + 1000, 23, 21, 20);
        asked(2, 7, 1, 7 + 30 + 1000, 23, 21, 20);
        due("7 by 7", ask(x, 7, 1), 2 + 1000);
        Document.says("4", "24 of FALSE ones: what 20 gives, less 100.");
        asked(3, 0, 1, -100, 24, 20);
        asked(3, 7, 1, 7 - 100, 24, 20);
    }

    private static void nearestBody() {
        Document.says("4", "(Of an ask the BODY told for the KIND begins,");
        asked(2, 3, 0, 2 * (1 + 3 + 30 + 1000), 12, 11, 10, 23, 21, 20);
        asked(4, 3, 1, 3 - 100, 22, 24, 20, 13, 10);
        Document.says("4", "else that of the nearest KIND that it is, too,");
        asked(5, 3, 1, 3 + 10, 21, 20);
        asked(4, 3, 0, 0, 13, 10);
        Document.says("4", "else the one that is lent;");
        SaidByTimes x = Checks.speaking(Ready.TONGUE);
        for (int kind = 1; kind <= 5; kind++) {
            x.put(kind, TOLD[kind]);
            x.ask(kind, 0);
            due("each KIND has a BODY of its own for SIZE", x.trace(0), new int[] {10, 11, 12, 13, 13, 14}[kind]);
            x.ask(kind, 1);
            due("each KIND has a BODY of its own for MARK", x.trace(0), new int[] {20, 21, 23, 24, 22, 21}[kind]);
        }
        Document.says("4", "SIZE, MARK within others are asked of the same SAYING anew.)");
        asked(2, 4, 0, 2 * (1 + 4 + 30 + 1000), 12, 11, 10, 23, 21, 20);
        asked(5, 4, 0, -(3 + 4 + 10), 14, 11, 10, 21, 20);
        due("of NOISE the SIZE is that of FALSE ones", ask(x, 4 * 13, 1), 2 - 100 + 2);
    }

    private static void kind() {
        Document.says("Promise 22", "The KIND of a SAYING, as told (1 to 5).");
        SaidByTimes x = Checks.speaking(Ready.TONGUE);
        for (int kind = 1; kind <= 5; kind++) {
            x.put(kind + 2, TOLD[kind]);
            due("KIND " + kind, x.kind(kind + 2), kind);
        }
        x.put(0, Checks.LONGEST);
        due("of the longest", x.kind(0), 3);
        Document.says("Promise 22", "BAD;");
        for (int none : new int[] {-1, 8, LEAST, GREATEST}) {
            Ready.bad("kind(" + none + ")", y -> y.kind(none));
        }
        Document.says("Promise 22", "STATE: the SLOT holds none.");
        Ready.state("kind(1)", y -> y.kind(1));
        Ready.state("kind(6)", y -> y.kind(6));
    }

    private static void as() {
        Document.says("Promise 23", "A SAYING is taken as one of a KIND (0 .. 5): its SLOT.");
        SaidByTimes x = Checks.speaking(Ready.TONGUE);
        x.put(0, 8);
        x.put(7, 13);
        due("a CHANT", x.as(0, 5), 0);
        due("NOISE", x.as(7, 4), 7);
        due("a SAYING", x.as(7, 0), 7);
        due("KIND -1", x.as(7, -1), Checks.BAD);
        due("KIND 6", x.as(7, 6), Checks.BAD);
        Document.says("Promise 23", "BAD;");
        for (int none : new int[] {-1, 8, LEAST, GREATEST}) {
            Ready.bad("as(" + none + ", 0)", y -> y.as(none, 0));
        }
        for (int none : new int[] {-1, 6, LEAST, GREATEST}) {
            Ready.bad("as(0, " + none + ")", y -> y.as(0, none));
            Ready.bad("as(1, " + none + ")", y -> y.as(1, none));
        }
        Document.says("Promise 23", "STATE: the SLOT holds none;");
        for (int kind = 0; kind <= 5; kind++) {
            int asked = kind;
            Ready.state("as(1, " + kind + ")", y -> y.as(1, asked));
        }
        Document.says("Promise 23", "KIND: by what it is told as it is no such one"
            + " (told as a KIND, it is what that is one of, too).");
        for (int told = 1; told <= 5; told++) {
            for (int kind = 0; kind <= 5; kind++) {
                boolean is = IS[kind][told];
                x.put(6, TOLD[told]);
                due("told as " + told + " as " + kind, x.as(6, kind), is ? 6 : Checks.KIND);
                due("then status()", x.status(), is ? 0 : 3);
            }
        }
        Ready.found("36 as a WORD", y -> y.as(0, 2), 3);
        Ready.found("36 as a CHANT", y -> y.as(0, 5), 3);
        Ready.found("10 as NOISE", y -> y.as(2, 4), 3);
        Ready.found("26 as a GOOD one", y -> y.as(5, 1), 3);
    }

    private static void ask() {
        Document.says("Promise 24", "An ASK (0, 1) of a SAYING.");
        asked(1, 6, 0, 4 + 6 + 10, 11, 10, 21, 20);
        asked(1, 6, 1, 6 + 10, 21, 20);
        SaidByTimes x = Ready.object();
        x.ask(0, 1);
        due("it changes no status()", x.status(), 4);
        due("the SAYING stays", x.said(0), 36);
        Document.says("Promise 24", "BAD;");
        for (int none : new int[] {-1, 8, LEAST, GREATEST}) {
            Ready.bad("ask(" + none + ", 0)", y -> y.ask(none, 0));
        }
        for (int none : new int[] {-1, 2, LEAST, GREATEST}) {
            Ready.bad("ask(0, " + none + ")", y -> y.ask(0, none));
            Ready.bad("ask(1, " + none + ")", y -> y.ask(1, none));
        }
        Document.says("Promise 24", "STATE: the SLOT holds none.");
        Ready.state("ask(1, 0)", y -> y.ask(1, 0));
        Ready.state("ask(1, 1)", y -> y.ask(1, 1));
    }

    private static void askRefused() {
        Document.says("Promise 24", "THE TRACE is empty ahead of it");
        SaidByTimes x = Checks.speaking(Ready.TONGUE);
        x.put(0, 3);
        x.put(1, 10);
        x.ask(0, 0);
        Checks.trace("of a WORD", x, 12, 11, 10, 23, 21, 20);
        x.ask(1, 0);
        Checks.trace("of a FALSE one", x, 13, 10);
        x.ask(1, 0);
        Checks.trace("of a FALSE one, again", x, 13, 10);
        x.ask(0, 1);
        Checks.trace("of a WORD", x, 23, 21, 20);
        Document.says("Promise 24", "(where that is refused it stays).");
        due("BAD", x.ask(0, 2), Checks.BAD);
        Checks.trace("behind BAD", x, 23, 21, 20);
        due("BAD", x.ask(8, 0), Checks.BAD);
        Checks.trace("behind BAD", x, 23, 21, 20);
        due("STATE", x.ask(2, 0), Checks.STATE);
        Checks.trace("behind STATE", x, 23, 21, 20);
    }

    private static void trace() {
        Document.says("Promise 25", "Number i of THE TRACE;");
        SaidByTimes x = Checks.speaking(Ready.TONGUE);
        x.put(0, 3);
        x.ask(0, 0);
        int[] bodies = {12, 11, 10, 23, 21, 20};
        for (int i = 0; i < bodies.length; i++) {
            due("trace(" + i + ")", x.trace(i), bodies[i]);
        }
        Checks.tongue(x, "thing 2 0;");
        x.put(0, 2);
        x.kind(0);
        x.as(0, 2);
        due("other calls leave it", x.trace(5), 20);
        Document.says("Promise 25", "NONE.");
        for (int i : new int[] {6, 15, 16, 17, GREATEST, -1, LEAST}) {
            due("trace(" + i + ")", x.trace(i), -1000000);
        }
        due("of a new object", new SaidByTimes().trace(0), -1000000);
        x.ask(0, 1);
        due("of a shorter one", x.trace(3), -1000000);
    }

    private static void count() {
        Document.says("Promise 26", "How many: 0 ROWS,");
        SaidByTimes x = new SaidByTimes();
        due("none", x.count(0), 0);
        for (int row = 0; row <= 7; row++) {
            x.row(row, 0, row == 3 ? 0 : 5);
            due("with ROW " + row, x.count(0), row + 1);
        }
        x.row(7, 1, 3);
        due("one anew", x.count(0), 8);
        x.drop(0);
        due("one dropped", x.count(0), 7);
        x.drop(0);
        x.row(0, 0, -1);
        due("one that is missing", x.count(0), 7);
        Document.says("Promise 26", "1 THINGS,");
        due("none", x.count(1), 0);
        Checks.tongue(x, "thing 2 or 3 0;");
        due("one", x.count(1), 1);
        Checks.tongue(x, "thing 2 0;thing 3 0;thing 5 0;thing 7 0;thing 11 0;thing 13 0;thing 17 0;thing 19 0;"
            + "thing 23 0;thing 29 0;thing 31 0;thing 37 0;");
        due("12", x.count(1), 12);
        Document.says("Promise 26", "2 rules,");
        due("none", x.count(2), 0);
        Checks.tongue(x, "thing 2 0;rule 0 0 1;");
        due("one", x.count(2), 1);
        Checks.tongue(x, "thing 2 0;rule 0 0 1;rule 1 0 1;rule 2 0 1;rule 3 0 1;rule 4 0 1;");
        due("5", x.count(2), 5);
    }

    private static void countOfTheRest() {
        Document.says("Promise 26", "3 pairs,");
        SaidByTimes x = new SaidByTimes();
        due("none", x.count(3), 0);
        Checks.tongue(x, "thing 2 0;thing 3 0;pair 0 1;");
        due("one", x.count(3), 1);
        Checks.tongue(x, "thing 2 0;thing 3 0;pair 0 1;pair 0 1;pair 1 0;pair 0 1;pair 0 1;pair 0 1;pair 0 1;pair 0 1;");
        due("8", x.count(3), 8);
        Document.says("Promise 26", "4 SLOTS that hold a SAYING,");
        due("none", x.count(4), 0);
        x.put(0, 1);
        x.put(7, 6);
        x.put(7, 7);
        due("2", x.count(4), 2);
        x.put(3, 0);
        due("none more", x.count(4), 2);
        for (int slot = 0; slot <= 7; slot++) {
            x.put(slot, 2);
        }
        due("8", x.count(4), 8);
        Document.says("Promise 26", "5 bytes on the tape.");
        due("none", x.count(5), 0);
        x.feed(0, 3);
        x.feed(0, 8);
        due("11", x.count(5), 11);
        x.tongue();
        due("none then", x.count(5), 0);
        Document.says("Promise 26", "BAD.");
        for (int what : new int[] {-1, 6, LEAST, GREATEST}) {
            Ready.bad("count(" + what + ")", y -> y.count(what));
        }
    }
}
