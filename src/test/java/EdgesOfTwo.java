/**
 * What the document says of two SAYINGS, what was heard, dealt, kept secret, signed, and of
 * IMAGES, a sentence at a time: block 3 of its Terms without KINDS, promises 13 to 21.
 */
final class EdgesOfTwo {
    private static final long LONGEST = Checks.LONGEST;
    private static final int LEAST = Integer.MIN_VALUE;
    private static final int GREATEST = Integer.MAX_VALUE;

    private EdgesOfTwo() {
    }

    static void all() {
        both();
        bothOfSlots();
        heard();
        heardOfSlots();
        dealt();
        dealtTooLong();
        dealtOfRows();
        dealtRefused();
        secret();
        secretOfSlots();
        signed();
        signedOfSlots();
        plus();
        plusRefused();
        same();
        sameTooLong();
        sameOfSlots();
        image();
        restore();
    }

    private static void due(String what, long got, long want) {
        Checks.due(what, got, want);
    }

    private static void two(long one, long other, int what, long due) {
        SaidByTimes x = new SaidByTimes();
        x.put(0, one);
        x.put(7, other);
        due("both of " + one + ", " + other + ", " + what, x.both(0, 7, what), due);
    }

    private static void both() {
        Document.says("3", "SHARED: the greatest number that goes into both.");
        two(60, 42, 0, 6);
        two(42, 60, 0, 6);
        two(1, 1, 0, 1);
        two(1, LONGEST, 0, 1);
        two(LONGEST, LONGEST, 0, LONGEST);
        two(LONGEST, LONGEST - 1, 0, 1);
        two(LONGEST, 32768, 0, 32768);
        two(7, 9, 0, 1);
        two(806515533049393L, 498454011879264L, 0, 1);
        Document.says("3", "EITHER: the least number into which both go");
        two(60, 42, 1, 420);
        two(7, 9, 1, 63);
        two(1, 1, 1, 1);
        two(12, 4, 1, 12);
        two(4, 12, 1, 12);
        two(LONGEST, LONGEST, 1, LONGEST);
        two(1, LONGEST, 1, LONGEST);
        Document.says("3", "(TOO LONG: NONE).");
        two(500000000000000L, 32768, 1, LONGEST);
        two(32768, 30517578125L, 1, LONGEST);
        two(1001, 999000999001L, 1, Checks.NONE);
        two(LONGEST, 3, 1, Checks.NONE);
        two(LONGEST, LONGEST - 1, 1, Checks.NONE);
        // By 64 bits these come out between 1 and the longest.
        two(720005858836890L, 758742692160180L, 1, Checks.NONE);
        two(709560597666568L, 429898362408368L, 1, Checks.NONE);
        two(139259150782346L, 605235937102870L, 1, Checks.NONE);
        Document.says("3", "ONE NOT THE OTHER: the first by SHARED.");
        two(60, 42, 2, 10);
        two(42, 60, 2, 7);
        two(60, 60, 2, 1);
        two(60, 1, 2, 60);
        two(1, 60, 2, 1);
        two(4, 2, 2, 2);
        two(LONGEST, 2, 2, 500000000000000L);
        two(LONGEST, LONGEST - 1, 2, LONGEST);
    }

    private static void bothOfSlots() {
        Document.says("Promise 13", "SHARED (what = 0),");
        SaidByTimes x = new SaidByTimes();
        x.put(3, 12);
        x.put(4, 18);
        due("both(3, 4, 0)", x.both(3, 4, 0), 6);
        due("of a SLOT and itself", x.both(3, 3, 0), 12);
        Document.says("Promise 13", "EITHER (1; NONE),");
        due("both(3, 4, 1)", x.both(3, 4, 1), 36);
        due("of a SLOT and itself", x.both(4, 4, 1), 18);
        x.put(5, 999999999999989L);
        due("NONE", x.both(3, 5, 1), -1000000);
        Document.says("Promise 13", "ONE NOT THE OTHER (2) of two SLOTS.");
        due("both(3, 4, 2)", x.both(3, 4, 2), 2);
        due("both(4, 3, 2)", x.both(4, 3, 2), 3);
        due("of a SLOT and itself", x.both(4, 4, 2), 1);
        due("they stay", x.said(3) * 100 + x.said(4), 1218);
        Document.says("Promise 13", "BAD;");
        for (int none : new int[] {-1, 8, LEAST, GREATEST}) {
            Ready.bad("both(" + none + ", 0, 0)", y -> y.both(none, 0, 0));
            Ready.bad("both(0, " + none + ", 0)", y -> y.both(0, none, 0));
            Ready.bad("both(1, " + none + ", 0)", y -> y.both(1, none, 0));
        }
        for (int what : new int[] {-1, 3, LEAST, GREATEST}) {
            Ready.bad("both(0, 2, " + what + ")", y -> y.both(0, 2, what));
            Ready.bad("both(1, 1, " + what + ")", y -> y.both(1, 1, what));
        }
        Document.says("Promise 13", "STATE: one holds none.");
        for (int what = 0; what <= 2; what++) {
            int asked = what;
            Ready.state("both(1, 0, " + what + ")", y -> y.both(1, 0, asked));
            Ready.state("both(0, 1, " + what + ")", y -> y.both(0, 1, asked));
            Ready.state("both(1, 3, " + what + ")", y -> y.both(1, 3, asked));
        }
    }

    private static void heardAre(SaidByTimes x, long saying, long... due) {
        x.put(5, saying);
        due(saying + ": how many", x.heard(5, -1), due.length);
        for (int i = 0; i < due.length; i++) {
            due(saying + ": the " + i + "-th", x.heard(5, i), due[i]);
        }
        due(saying + ": not so many", x.heard(5, due.length), Checks.NONE);
    }

    private static void heard() {
        Document.says("3", "HEARD: a SAYING in which just one figure was heard wrong");
        SaidByTimes x = Checks.speaking("thing 2 0;thing 3 0;thing 5 0;");
        heardAre(x, 30, 10, 20, 32, 36, 40, 50, 60, 80, 90);
        heardAre(x, 11, 10, 12, 15, 16, 18, 81);
        heardAre(x, 777);
        heardAre(x, 1212, 1215);
        Document.says("3", "(in decimal figures; the first of several is no 0):");
        heardAre(x, 10, 12, 15, 16, 18, 20, 30, 40, 50, 60, 80, 90);
        heardAre(x, 15, 10, 12, 16, 18, 25, 45, 75);
        heardAre(x, 9, 1, 2, 3, 4, 5, 6, 8);
        heardAre(x, 1, 2, 3, 4, 5, 6, 8, 9);
        SaidByTimes ten = Checks.speaking("thing 2 0;thing 5 0;");
        heardAre(ten, LONGEST);
        heardAre(ten, 900000000000000L,
            100000000000000L, 200000000000000L, 400000000000000L, 500000000000000L, 800000000000000L);
        heardAre(ten, 110, 100, 160);
        heardAtEachPlace();
        Document.says("3", "GOOD ones that it can have been:");
        SaidByTimes ruled = Checks.speaking("thing 2 0;thing 3 0;thing 5 1;rule 1 1 1;pair 0 2;");
        heardAre(ruled, 14, 15);
        heardAre(ruled, 1015, 1215);
        SaidByTimes silent = new SaidByTimes();
        heardAre(silent, 3, 1);
        heardAre(silent, 21);
        Document.says("3", "how many, the i-th, the least first.");
        heardAre(x, 95, 15, 25, 45, 75, 90, 96);
        heardAre(x, 127, 120, 125, 128);
        heardAre(x, 2000, 1000, 2400, 2500, 2700, 3000, 4000, 5000, 6000, 8000, 9000);
    }

    /** Each figure of a GOOD one of fifteen figures is heard wrong, in each way there is. */
    private static void heardAtEachPlace() {
        String good = "562949953421312";
        for (int place = 0; place < good.length(); place++) {
            SaidByTimes x = Checks.speaking("thing 2 0;thing 5 0;");
            for (char figure = '0'; figure <= '9'; figure++) {
                String wrong = good.substring(0, place) + figure + good.substring(place + 1);
                if (figure != good.charAt(place) && wrong.charAt(0) != '0') {
                    x.put(1, Long.parseLong(wrong));
                    due(wrong + ": how many", x.heard(1, -1), 1);
                    due(wrong + ": the first", x.heard(1, 0), 562949953421312L);
                }
            }
        }
        SaidByTimes x = Checks.speaking("thing 2 0;thing 5 0;");
        long unit = 1;
        for (int figures = 2; figures <= 15; figures++) {
            heardAre(x, 10 * unit, 16 * unit, 20 * unit, 40 * unit, 50 * unit, 80 * unit);
            unit *= 10;
        }
    }

    private static void heardOfSlots() {
        Document.says("Promise 14", "HEARD: how many (i = -1),");
        SaidByTimes x = Checks.speaking("thing 2 0;thing 3 0;");
        x.put(0, 7);
        x.put(7, 25);
        due("of 7", x.heard(0, -1), 7);
        due("of 25", x.heard(7, -1), 2);
        Document.says("Promise 14", "the i-th;");
        due("the first", x.heard(0, 0), 1);
        due("the last", x.heard(0, 6), 9);
        due("of 25", x.heard(7, 0), 24);
        due("it stays", x.said(0), 7);
        Document.says("Promise 14", "NONE: not so many.");
        due("one beyond", x.heard(0, 7), -1000000);
        due("far beyond", x.heard(0, GREATEST), -1000000);
        x.put(1, 55);
        due("of one", x.heard(1, -1), 1);
        x.put(1, 115);
        due("of none", x.heard(1, -1), 0);
        due("of none", x.heard(1, 0), -1000000);
        Document.says("Promise 14", "BAD: i below -1;");
        for (int none : new int[] {-1, 8, LEAST, GREATEST}) {
            Ready.bad("heard(" + none + ", 0)", y -> y.heard(none, 0));
        }
        for (int i : new int[] {-2, -100, LEAST}) {
            Ready.bad("heard(0, " + i + ")", y -> y.heard(0, i));
            Ready.bad("heard(1, " + i + ")", y -> y.heard(1, i));
        }
        Document.says("Promise 14", "STATE: the SLOT holds none.");
        Ready.state("heard(1, -1)", y -> y.heard(1, -1));
        Ready.state("heard(1, 0)", y -> y.heard(1, 0));
        Ready.state("heard(1, greatest)", y -> y.heard(1, GREATEST));
        Ready.state("heard(6, 0)", y -> y.heard(6, 0));
    }

    /** A dealing of what is told in ROW 0: the sum, then whose NUMBER each THING gets. */
    private static void dealtAre(SaidByTimes x, int n, int m, long sum, int... gets) {
        due("dealt of " + n + ", " + m + ": the sum", x.dealt(0, n, m, -1), sum);
        for (int t = 0; t < gets.length; t++) {
            due("dealt of " + n + ", " + m + ": THING " + t + " gets", x.dealt(0, n, m, t), gets[t]);
        }
    }

    private static void dealt() {
        Document.says("3", "DEALT: the NUMBERS (first ones) of the first n THINGS (2 to 6) are dealt anew among them:");
        SaidByTimes x = Checks.speaking(
            "thing 7 or 2 0;thing 3 0;thing 5 1;thing 11 0;thing 13 0;thing 17 0;thing 19 0;rule 0 9 9;pair 0 1;");
        Checks.ints(x, 0, 3, 0, 0, 0, 0, 1);
        dealtAre(x, 2, 1, 27, 1, 0);
        dealtAre(x, 3, 1, 27, 1, 0, 2);
        dealtAre(x, 6, 1, 27 * 5, 1, 0, 3, 4, 5, 2);
        due("of 1", x.dealt(0, 1, 1, -1), Checks.BAD);
        due("of 7", x.dealt(0, 7, 1, -1), Checks.BAD);
        Document.says("3", "the dealing by which told sayings (a row:"
            + " for each how often THINGS 0 .. n less 1 stand in it, 0 to 3 each;");
        Checks.ints(x, 0, 1, 2, 3, 0, 0, 1);
        dealtAre(x, 3, 1, 7 * 25 * 27, 0, 2, 1);
        dealtAre(x, 3, 2, 7 * 25 * 27 + 3, 0, 2, 1);
        dealtAre(x, 2, 3, 3 * 49 + 27 + 7, 1, 0);
        x.set(0, 5, 4);
        due("4 times", x.dealt(0, 3, 2, -1), Checks.BAD);
        x.set(0, 5, -1);
        due("-1 times", x.dealt(0, 3, 2, -1), Checks.BAD);
        Document.says("3", "m of them, 1 to 4)");
        Checks.ints(x, 0, 1, 0, 0, 1, 2, 0, 0, 2, 1, 1);
        dealtAre(x, 2, 1, 3, 1, 0);
        dealtAre(x, 2, 4, 7 + 3 + 49 + 9, 0, 1);
        due("of 0", x.dealt(0, 2, 0, -1), Checks.BAD);
        due("of 5", x.dealt(0, 2, 5, -1), Checks.BAD);
        Document.says("3", "are least, added: the sum;");
        Checks.ints(x, 0, 2, 0, 0, 2, 0, 1);
        dealtAre(x, 2, 3, 49 + 9 + 3, 0, 1);
        Checks.ints(x, 0, 0, 0, 0, 0);
        dealtAre(x, 2, 2, 2, 0, 1);
        Document.says("3", "which THING's NUMBER a THING gets;");
        Checks.ints(x, 0, 2, 3, 1);
        dealtAre(x, 3, 1, 25 * 27 * 7, 2, 1, 0);
        Document.says("3", "of several the first by THINGS;");
        Checks.ints(x, 0, 1, 1, 1, 0, 0, 0);
        dealtAre(x, 2, 1, 21, 0, 1);
        dealtAre(x, 3, 1, 105, 0, 1, 2);
        dealtAre(x, 6, 1, 105, 0, 1, 2, 3, 4, 5);
        Checks.ints(x, 0, 0, 1, 1);
        dealtAre(x, 3, 1, 15, 0, 1, 2);
        Checks.ints(x, 0, 1, 0, 1);
        dealtAre(x, 3, 1, 15, 1, 0, 2);
        Checks.ints(x, 0, 0, 0, 0, 0, 0, 0);
        dealtAre(x, 6, 1, 1, 0, 1, 2, 3, 4, 5);
    }

    private static void dealtTooLong() {
        Document.says("3", "NONE: in each dealing one is TOO LONG.");
        SaidByTimes x = Checks.speaking("thing 11 0;thing 61 0;thing 149 0;thing 5 0;");
        Checks.ints(x, 0, 3, 3, 3, 0, 0, 0);
        dealtAre(x, 3, 1, 99979L * 99979 * 99979, 0, 1, 2);
        dealtAre(x, 3, 2, 99979L * 99979 * 99979 + 1, 0, 1, 2);
        SaidByTimes y = Checks.speaking("thing 3 0;thing 5 0;thing 59 0;thing 113 0;");
        Checks.ints(y, 0, 3, 3, 3, 3, 0, 0, 0, 0);
        dealtAre(y, 4, 1, -1000000, -1000000, -1000000, -1000000, -1000000);
        dealtAre(y, 4, 2, Checks.NONE, -1000000);
        Checks.ints(y, 0, 0, 0, 0, 0, 3, 3, 3, 3);
        dealtAre(y, 4, 2, Checks.NONE, -1000000);
        dealtAre(y, 4, 1, 1, 0, 1, 2, 3);
        SaidByTimes great = Checks.speaking("thing 199 0;thing 197 0;thing 193 0;thing 191 0;thing 181 0;thing 3 0;");
        Checks.ints(great, 0, 3, 3, 1, 0, 0, 0);
        dealtAre(great, 6, 1, 3L * 3 * 3 * 181 * 181 * 181 * 191, 4, 5, 3, 0, 1, 2);
        // By 64 bits some dealing of these comes out between 1 and the longest.
        SaidByTimes wraps = Checks.speaking("thing 83 0;thing 181 0;thing 167 0;thing 193 0;thing 127 0;thing 79 0;");
        Checks.ints(wraps, 0, 2, 1, 3, 3, 1, 3);
        dealtAre(wraps, 6, 1, Checks.NONE, -1000000);
        wraps = Checks.speaking("thing 181 0;thing 193 0;thing 139 0;thing 199 0;thing 191 0;thing 79 0;");
        Checks.ints(wraps, 0, 3, 1, 3, 2, 3, 2);
        dealtAre(wraps, 6, 1, Checks.NONE, -1000000);
        wraps = Checks.speaking("thing 181 0;thing 193 0;thing 197 0;thing 199 0;thing 191 0;thing 179 0;");
        Checks.ints(wraps, 0, 3, 3, 3, 3, 3, 3);
        dealtAre(wraps, 6, 1, Checks.NONE, -1000000);
    }

    private static void dealtOfRows() {
        Document.says("Promise 15", "DEALT, ITEMS of a ROW from its beginning on, n for each of m sayings:");
        SaidByTimes x = Checks.speaking("thing 2 0;thing 3 0;thing 5 0;thing 7 0;thing 11 0;thing 13 0;");
        x.row(7, 0, 24);
        x.set(7, 0, 1);
        x.set(7, 23, 3);
        due("24 ITEMS", x.dealt(7, 6, 4, -1), 3 + 1 + 1 + 8);
        due("THING 0", x.dealt(7, 6, 4, 0), 1);
        due("THING 5", x.dealt(7, 6, 4, 5), 0);
        due("18 of them", x.dealt(7, 6, 3, -1), 2 + 1 + 1);
        x.set(7, 20, -5);
        due("ITEMS behind them do not count", x.dealt(7, 5, 4, -1), 2 + 1 + 1 + 1);
        x.row(6, 1, 4);
        x.set(6, 2, 2);
        due("just so many ITEMS", x.dealt(6, 2, 2, -1), 1 + 4);
        Document.says("Promise 15", "the sum (thing = -1),");
        due("the sum", x.dealt(6, 4, 1, -1), 4);
        due("it stays", x.dealt(6, 4, 1, -1), 4);
        Document.says("Promise 15", "whose NUMBER a THING gets;");
        due("THING 2", x.dealt(6, 4, 1, 2), 0);
        due("THING 0", x.dealt(6, 4, 1, 0), 1);
        due("THING 3", x.dealt(6, 4, 1, 3), 3);
        Document.says("Promise 15", "NONE.");
        SaidByTimes y = Checks.speaking("thing 199 0;thing 197 0;thing 193 0;");
        Checks.ints(y, 0, 3, 3, 3);
        due("the sum", y.dealt(0, 3, 1, -1), -1000000);
        for (int t = 0; t < 3; t++) {
            due("THING " + t, y.dealt(0, 3, 1, t), -1000000);
        }
        due("two of them are not TOO LONG", y.dealt(0, 2, 1, -1), 39203L * 39203 * 39203);
    }

    private static void dealtRefused() {
        Document.says("Promise 15", "BAD: ROW,");
        for (int none : new int[] {-1, 8, LEAST, GREATEST}) {
            Ready.bad("dealt(" + none + ", 2, 1, -1)", x -> x.dealt(none, 2, 1, -1));
        }
        Document.says("Promise 15", "n (also above how many THINGS there are),");
        for (int n : new int[] {-1, 0, 1, 5, 7, LEAST, GREATEST}) {
            Ready.bad("dealt(0, " + n + ", 1, -1)", x -> x.dealt(0, n, 1, -1));
            Ready.bad("dealt(2, " + n + ", 1, -1)", x -> x.dealt(2, n, 1, -1));
        }
        SaidByTimes three = Checks.speaking("thing 2 0;thing 3 0;thing 5 0;");
        three.row(0, 0, 40);
        due("as many as there are", three.dealt(0, 3, 1, -1), 1);
        due("one more", three.dealt(0, 4, 1, -1), Checks.BAD);
        SaidByTimes one = Checks.speaking("thing 2 or 3 0;");
        one.row(0, 0, 40);
        due("of one THING", one.dealt(0, 2, 1, -1), Checks.BAD);
        SaidByTimes silent = new SaidByTimes();
        silent.row(0, 0, 40);
        due("without a TONGUE", silent.dealt(0, 2, 1, -1), Checks.BAD);
        due("without a TONGUE, of a missing ROW", silent.dealt(1, 2, 1, -1), Checks.BAD);
        SaidByTimes seven = Checks.speaking("thing 2 0;thing 3 0;thing 5 0;thing 7 0;thing 11 0;thing 13 0;thing 17 0;");
        seven.row(0, 0, 40);
        due("6 of 7 THINGS", seven.dealt(0, 6, 4, -1), 4);
        due("7 of 7 THINGS", seven.dealt(0, 7, 4, -1), Checks.BAD);
        Document.says("Promise 15", "m,");
        for (int m : new int[] {-1, 0, 5, LEAST, GREATEST}) {
            Ready.bad("dealt(0, 2, " + m + ", -1)", x -> x.dealt(0, 2, m, -1));
            Ready.bad("dealt(2, 2, " + m + ", -1)", x -> x.dealt(2, 2, m, -1));
        }
        Document.says("Promise 15", "thing;");
        for (int thing : new int[] {-2, 2, 3, 12, LEAST, GREATEST}) {
            Ready.bad("dealt(0, 2, 1, " + thing + ")", x -> x.dealt(0, 2, 1, thing));
            Ready.bad("dealt(2, 2, 1, " + thing + ")", x -> x.dealt(2, 2, 1, thing));
        }
        Document.says("Promise 15", "NULL;");
        Ready.isNull("dealt(2, 2, 1, -1)", x -> x.dealt(2, 2, 1, -1));
        Ready.isNull("dealt(7, 4, 4, 0)", x -> x.dealt(7, 4, 4, 0));
        Document.says("Promise 15", "PLACE;");
        Ready.place("4 of 3 ITEMS", x -> x.dealt(1, 2, 2, -1));
        Ready.place("4 of 3 ITEMS", x -> x.dealt(1, 4, 1, -1));
        Ready.place("8 of 6 ITEMS", x -> x.dealt(0, 4, 2, -1));
        Ready.place("2 of no ITEMS", x -> x.dealt(5, 2, 1, -1));
        due("24 of 23 ITEMS", seven.row(0, 0, 23) + seven.dealt(0, 6, 4, -1), 23 + Checks.PLACE);
        Document.says("Promise 15", "then BAD: an ITEM.");
        for (int item : new int[] {-1, 4, LEAST, GREATEST}) {
            SaidByTimes x = Ready.object();
            x.set(0, 3, item);
            due("an ITEM " + item, x.dealt(0, 2, 2, -1), Checks.BAD);
            due("an ITEM " + item, x.dealt(0, 4, 1, 0), Checks.BAD);
            due("PLACE goes ahead", x.dealt(0, 4, 2, 0), Checks.PLACE);
            due("it is not among them", x.dealt(0, 3, 1, -1), 3 * 4);
        }
    }

    private static SaidByTimes knowing(long... sayings) {
        SaidByTimes x = new SaidByTimes();
        for (int slot = 0; slot < sayings.length; slot++) {
            if (sayings[slot] > 0) {
                x.put(slot, sayings[slot]);
            }
        }
        return x;
    }

    private static void secret() {
        Document.says("3", "SECRET: some SLOTS (of the SAYING 1: none, told as 0)");
        due("of 1", knowing(1, 1, 2, 3).secret(0, 255), 0);
        due("of 1, asked of none", knowing(1).secret(0, 0), 0);
        due("of 2, asked of none", knowing(2).secret(0, 0), Checks.NONE);
        Document.says("3", "know the SAYING in SLOT s together, if what is SHARED by it and each of them,"
            + " made into EITHER, is that SAYING:");
        SaidByTimes x = knowing(60, 4, 3, 5, 12, 15, 20, 2);
        due("three", x.secret(0, 2 | 4 | 8), 2 | 4 | 8);
        due("two of three", x.secret(0, 2 | 4), Checks.NONE);
        due("what they say beside it is not SHARED", knowing(12, 4 * 7, 3 * 11).secret(0, 6), 6);
        due("what they say twice is once in EITHER", knowing(12, 6, 4).secret(0, 6), 6);
        due("2 and 2 are not 4", knowing(4, 2, 2).secret(0, 6), Checks.NONE);
        due("one that says it and more", knowing(4, 2, 8).secret(0, 6), 4);
        due("one that says just it", knowing(LONGEST, 2, LONGEST).secret(0, 6), 4);
        due("of the longest", knowing(LONGEST, 32768L * 3, 30517578125L * 7).secret(0, 6), 6);
        Document.says("3", "of SLOTS told by bits the fewest that do,");
        due("two, though three are less as bits", x.secret(0, 2 | 4 | 8 | 16), 8 | 16);
        due("one, though two are less as bits", knowing(6, 2, 3, 6).secret(0, 14), 8);
        due("one, the last", knowing(0, 2, 3, 5, 30, 6, 0, 60).secret(4, 255), 128);
        Document.says("3", "of several the least as bits;");
        due("of six pairs", x.secret(0, 255), 8 | 16);
        due("of three pairs", x.secret(0, 16 | 32 | 64), 16 | 32);
        due("of three single ones", knowing(6, 0, 6, 12, 6).secret(0, 255), 4);
        due("of the greater two", knowing(6, 0, 6, 12, 6).secret(0, 8 | 16), 8);
        Document.says("3", "NONE.");
        due("none does", x.secret(0, 2 | 8), Checks.NONE);
        due("all together do not", knowing(7, 2, 3, 5, 4, 6, 8, 9).secret(0, 255), Checks.NONE);
    }

    private static void secretOfSlots() {
        Document.says("Promise 16", "SECRET: SLOT s, others as bits");
        SaidByTimes x = knowing(12, 3, 0, 4, 12, 0, 0, 24);
        due("secret(0, all)", x.secret(0, 255), 16);
        due("secret(0, 1 and 3)", x.secret(0, 2 | 8), 2 | 8);
        due("secret(7, all)", x.secret(7, 255), Checks.NONE);
        due("secret(1, all)", x.secret(1, 255), 1);
        due("secret(3, 7)", x.secret(3, 128), 128);
        Document.says("Promise 16", "(0 to 255;");
        due("0", x.secret(0, 0), Checks.NONE);
        due("255", x.secret(0, 255), 16);
        due("256", x.secret(0, 256), Checks.BAD);
        due("-1", x.secret(0, -1), Checks.BAD);
        Document.says("Promise 16", "s itself, empty ones do not count);");
        due("s itself", x.secret(0, 1), Checks.NONE);
        due("s itself and one more", x.secret(0, 1 | 16), 16);
        due("empty ones", x.secret(0, 4 | 32 | 64), Checks.NONE);
        due("empty ones and two more", x.secret(0, 2 | 4 | 8 | 32 | 64), 2 | 8);
        Document.says("Promise 16", "NONE.");
        due("none knows", x.secret(0, 8), -1000000);
        Document.says("Promise 16", "BAD;");
        for (int none : new int[] {-1, 8, LEAST, GREATEST}) {
            Ready.bad("secret(" + none + ", 0)", y -> y.secret(none, 0));
        }
        for (int others : new int[] {-1, 256, LEAST, GREATEST}) {
            Ready.bad("secret(0, " + others + ")", y -> y.secret(0, others));
            Ready.bad("secret(1, " + others + ")", y -> y.secret(1, others));
        }
        Document.says("Promise 16", "STATE: the SLOT holds none.");
        Ready.state("secret(1, 0)", y -> y.secret(1, 0));
        Ready.state("secret(1, 255)", y -> y.secret(1, 255));
    }

    private static void signed() {
        Document.says("3", "SIGNED: THINGS (bits) that stand in a SAYING;");
        SaidByTimes x = Checks.speaking("thing 2 0;thing 3 or 7 1;thing 5 0;thing 11 0;");
        long[] sayings = {1, 2, 3, 7, 21, 4 * 49 * 11, 13, 13 * 5, 2 * 3 * 5 * 11};
        int[] signed = {0, 1, 2, 2, 2, 11, 0, 4, 15};
        for (int k = 0; k < sayings.length; k++) {
            x.put(0, sayings[k]);
            due(String.valueOf(sayings[k]), x.signed(0, -1), signed[k]);
        }
        Document.says("3", "FALSELY: of those who say so (bits; of THINGS that there are not, too) which do not.");
        x.put(0, 4 * 7 * 13);
        due("none say so", x.signed(0, 0), 0);
        due("those who do", x.signed(0, 3), 0);
        due("one who does not", x.signed(0, 4), 4);
        due("some of each", x.signed(0, 13), 12);
        due("THINGS that there are not", x.signed(0, 16 | 2048), 16 | 2048);
        due("all", x.signed(0, 4095), 4095 - 3);
    }

    private static void signedOfSlots() {
        Document.says("Promise 17", "SIGNED (who = -1),");
        SaidByTimes x = Checks.speaking("thing 2 0;thing 3 0;thing 5 0;thing 7 0;thing 11 0;thing 13 0;"
            + "thing 17 0;thing 19 0;thing 23 0;thing 29 0;thing 31 0;thing 37 0;");
        x.put(0, 37 * 2);
        x.put(7, 3);
        due("THINGS 0 and 11", x.signed(0, -1), 2049);
        due("THING 1", x.signed(7, -1), 2);
        Document.says("Promise 17", "FALSELY (who: bits, 0 to 4095).");
        due("0", x.signed(0, 0), 0);
        due("4095", x.signed(0, 4095), 4095 - 2049);
        due("4096", x.signed(0, 4096), Checks.BAD);
        due("-2", x.signed(0, -2), Checks.BAD);
        SaidByTimes silent = new SaidByTimes();
        silent.put(0, 6);
        due("SIGNED without a TONGUE", silent.signed(0, -1), 0);
        due("FALSELY without a TONGUE", silent.signed(0, 4095), 4095);
        Document.says("Promise 17", "BAD;");
        for (int none : new int[] {-1, 8, LEAST, GREATEST}) {
            Ready.bad("signed(" + none + ", 0)", y -> y.signed(none, 0));
        }
        for (int who : new int[] {-2, 4096, LEAST, GREATEST}) {
            Ready.bad("signed(0, " + who + ")", y -> y.signed(0, who));
            Ready.bad("signed(1, " + who + ")", y -> y.signed(1, who));
        }
        Document.says("Promise 17", "STATE: the SLOT holds none.");
        Ready.state("signed(1, -1)", y -> y.signed(1, -1));
        Ready.state("signed(1, 0)", y -> y.signed(1, 0));
        Ready.state("signed(1, 4095)", y -> y.signed(1, 4095));
    }

    private static void plusAre(SaidByTimes x, int n, long... due) {
        due("plus " + n + ": how many", x.plus(n, -1), due.length);
        for (int i = 0; i < due.length; i++) {
            due("plus " + n + ": the " + i + "-th", x.plus(n, i), due[i]);
        }
        due("plus " + n + ": not so many", x.plus(n, due.length), Checks.NONE);
    }

    private static void plus() {
        Document.says("3", "PLUS: a number n (2 to 2000) heard as two SAYINGS with plus between:");
        SaidByTimes x = Checks.speaking("thing 2 0;thing 3 0;");
        plusAre(x, 2, 1);
        plusAre(x, 1999);
        plusAre(x, 2000);
        SaidByTimes five = Checks.speaking("thing 5 0;thing 2 0;");
        plusAre(five, 2000, 400, 1000);
        Document.says("3", "pairs of GOOD ones,");
        plusAre(x, 7, 1, 3);
        SaidByTimes ruled = Checks.speaking("thing 2 0;thing 3 0;thing 5 0;rule 0 2 2;pair 0 1;");
        plusAre(ruled, 14, 4);
        plusAre(ruled, 13, 4);
        plusAre(ruled, 6);
        Document.says("3", "the first no more than the second:");
        plusAre(x, 8, 2, 4);
        plusAre(x, 3, 1);
        plusAre(ruled, 50, 25);
        Document.says("3", "how many, the first of the i-th, the least first.");
        plusAre(x, 12, 3, 4, 6);
        plusAre(x, 1536, 384, 512, 768);
    }

    private static void plusRefused() {
        Document.says("Promise 18", "PLUS: how many (i = -1),");
        SaidByTimes x = Checks.speaking("thing 2 0;thing 3 0;");
        due("of 5", x.plus(5, -1), 2);
        due("of 1999", x.plus(1999, -1), 0);
        Document.says("Promise 18", "the first of the i-th;");
        due("the first", x.plus(5, 0), 1);
        due("the last", x.plus(5, 1), 2);
        Document.says("Promise 18", "NONE: not so many.");
        due("one beyond", x.plus(5, 2), -1000000);
        due("far beyond", x.plus(5, GREATEST), -1000000);
        due("of none", x.plus(1999, 0), -1000000);
        Document.says("Promise 18", "BAD: n,");
        for (int n : new int[] {1, 0, -1, 2001, LEAST, GREATEST}) {
            Ready.bad("plus(" + n + ", 0)", y -> y.plus(n, 0));
        }
        due("2", x.plus(2, -1), 1);
        due("2000", x.plus(2000, -1), 0);
        Document.says("Promise 18", "i below -1;");
        for (int i : new int[] {-2, -100, LEAST}) {
            Ready.bad("plus(5, " + i + ")", y -> y.plus(5, i));
        }
        Document.says("Promise 18", "STATE: no TONGUE (ahead of BAD).");
        SaidByTimes silent = new SaidByTimes();
        due("plus(5, 0)", silent.plus(5, 0), Checks.STATE);
        due("plus(1, 0)", silent.plus(1, 0), Checks.STATE);
        due("plus(2001, -2)", silent.plus(2001, -2), Checks.STATE);
        due("plus(5, -2)", silent.plus(5, -2), Checks.STATE);
        Checks.tongue(silent, "thing 4 0;");
        due("behind a FAULT", silent.plus(5, 0), Checks.STATE);
        Checks.tongue(silent, "thing 2 0;");
        due("with one", silent.plus(5, 0), 1);
    }

    private static void sameAre(SaidByTimes x, long saying, long due) {
        x.put(6, saying);
        due("same as " + saying, x.same(6), due);
    }

    private static void same() {
        Document.says("3", "SAME: how many SAYINGS (itself, too) have a REST of 1,");
        SaidByTimes x = Checks.speaking("thing 2 0;thing 3 or 7 1;thing 13 or 5 0;rule 0 0 1;pair 0 1;");
        sameAre(x, 1, 1);
        sameAre(x, 2, 1);
        sameAre(x, 562949953421312L, 1);
        Document.says("3", "and each THING stands in them as often as in it (by either NUMBER, by both together),");
        sameAre(x, 3, 2);
        sameAre(x, 7, 2);
        sameAre(x, 9, 3);
        sameAre(x, 21, 3);
        sameAre(x, 49, 3);
        sameAre(x, 343, 4);
        sameAre(x, 6, 2);
        sameAre(x, 3 * 5, 4);
        sameAre(x, 2 * 21 * 5, 6);
        sameAre(x, 4 * 21 * 65, 9);
    }

    private static void sameTooLong() {
        Document.says("3", "and are not TOO LONG;");
        SaidByTimes x = Checks.speaking("thing 2 or 5 0;thing 3 0;");
        sameAre(x, 1073741824L, 16);
        sameAre(x, 2147483648L, 15);
        sameAre(x, LONGEST, 16);
        sameAre(x, LONGEST / 2, 16);
        SaidByTimes great = Checks.speaking("thing 2 or 199 0;");
        sameAre(great, 562949953421312L, 1);
        sameAre(great, 1099511627776L, 2);
        SaidByTimes below = Checks.speaking("thing 2 0;thing 11 0;thing 19 0;thing 29 0;thing 41 0;thing 67 0;"
            + "thing 83 0;thing 137 0;thing 131 or 139 0;");
        sameAre(below, 999999999617674L / 139 * 131, 2);
        sameAre(below, 999999999617674L, 2);
        SaidByTimes above = Checks.speaking("thing 2 0;thing 7 0;thing 11 0;thing 13 0;thing 19 0;thing 37 0;"
            + "thing 67 0;thing 79 0;thing 127 0;thing 139 or 151 0;");
        sameAre(above, 1000000000961962L / 151 * 139, 1);
        // By 64 bits some of these that are TOO LONG come out between 1 and the longest, or below 0.
        sameAre(Checks.speaking("thing 2 or 43 0;"), 1L << 37, 3);
        sameAre(Checks.speaking("thing 41 or 2 0;"), 1L << 49, 1);
        sameAre(Checks.speaking("thing 2 or 103 0;"), 1L << 24, 5);
        sameAre(Checks.speaking("thing 2 or 181 0;"), 1L << 40, 2);
        sameAre(Checks.speaking("thing 3 or 2 0;"), 1L << 40, 17);
        sameAre(Checks.speaking("thing 2 or 7 0;"), 1L << 24, 15);
        Document.says("3", "NONE: its REST is not 1.");
        sameAre(x, 7, -1000000);
        sameAre(x, 2 * 7, Checks.NONE);
        sameAre(x, 211 * 5, Checks.NONE);
        SaidByTimes silent = new SaidByTimes();
        sameAre(silent, 1, 1);
        sameAre(silent, 2, Checks.NONE);
    }

    private static void sameOfSlots() {
        Document.says("Promise 19", "SAME;");
        SaidByTimes x = Checks.speaking("thing 3 or 2 0;rule 0 0 1;");
        x.put(0, 2);
        x.put(7, 4);
        due("a GOOD one", x.same(0), 2);
        due("one that is not GOOD", x.same(7), 3);
        due("it stays", x.said(7), 4);
        Document.says("Promise 19", "NONE.");
        x.put(7, 5);
        due("NOISE", x.same(7), -1000000);
        Document.says("Promise 19", "BAD;");
        for (int none : new int[] {-1, 8, LEAST, GREATEST}) {
            Ready.bad("same(" + none + ")", y -> y.same(none));
        }
        Document.says("Promise 19", "STATE: the SLOT holds none.");
        Ready.state("same(1)", y -> y.same(1));
        Ready.state("same(6)", y -> y.same(6));
        due("without a TONGUE", new SaidByTimes().same(0), Checks.STATE);
    }

    private static void image() {
        Document.says("Promise 20", "An IMAGE (0, 1) is kept of TONGUE and SLOTS: 1.");
        SaidByTimes x = Checks.speaking("thing 2 or 3 0;thing 5 1;rule 0 0 2;pair 0 1;");
        x.put(0, 6);
        x.put(7, LONGEST);
        due("image(0)", x.image(0), 1);
        x.put(0, 7);
        x.put(3, 1);
        due("image(1)", x.image(1), 1);
        due("it changes nothing", x.said(0) * 100 + x.count(4), 703);
        Checks.tongue(x, "thing 7 0;");
        x.restore(0);
        due("THINGS, rules, pairs", x.count(1) * 100 + x.count(2) * 10 + x.count(3), 211);
        due("SLOTS", x.count(4), 2);
        due("SLOT 0", x.said(0), 6);
        due("SLOT 7", x.said(7), LONGEST);
        due("SLOT 3", x.said(3), Checks.NONE);
        due("by both NUMBERS", x.apart(0, 0), 2);
        due("of its rule", x.apart(0, -2), 1);
        x.put(0, 8);
        due("of its rule", x.apart(0, -2), 0);
        x.put(0, 10);
        due("of its pair", x.apart(0, -2), 0);
        x.put(0, 9);
        due("kept anew", x.image(0), 1);
        x.put(0, 5);
        x.restore(0);
        due("as it was kept anew", x.said(0), 9);
        Document.says("Promise 20", "BAD;");
        for (int k : new int[] {-1, 2, LEAST, GREATEST}) {
            Ready.bad("image(" + k + ")", y -> y.image(k));
            due("without a TONGUE image(" + k + ")", new SaidByTimes().image(k), Checks.BAD);
        }
        Document.says("Promise 20", "STATE: no TONGUE.");
        SaidByTimes silent = new SaidByTimes();
        silent.put(0, 6);
        due("image(0)", silent.image(0), Checks.STATE);
        due("image(1)", silent.image(1), Checks.STATE);
        due("none was kept", silent.restore(0), Checks.STATE);
        Checks.tongue(silent, "thing 4 0;");
        due("behind a FAULT", silent.image(0), Checks.STATE);
        Checks.tongue(silent, "thing 2 0;");
        due("with a TONGUE and no SAYINGS", silent.image(0), 1);
    }

    private static void restore() {
        Document.says("Promise 21", "These are as an IMAGE kept them: 1.");
        SaidByTimes x = Checks.speaking("thing 2 0;thing 3 1;");
        x.image(0);
        x.put(2, 12);
        x.image(1);
        Checks.tongue(x, "thing 5 or 7 0;thing 11 0;thing 13 0;rule 1 0 0;");
        x.put(2, 35);
        x.put(3, 5);
        Checks.ints(x, 0, 1, 1);
        Checks.feed(x, "thing 17 0;");
        due("restore(1)", x.restore(1), 1);
        due("its THINGS", x.count(1), 2);
        due("its rules", x.count(2), 0);
        due("its SLOTS", x.count(4), 1);
        due("its SAYING", x.said(2), 12);
        due("taken apart", x.apart(2, 0) * 10 + x.apart(2, 1), 21);
        due("the ROW stays", x.say(4, 0, 0, 2), 9);
        due("the tape stays", x.count(5), 11);
        due("restore(0)", x.restore(0), 1);
        due("it had no SAYINGS", x.count(4), 0);
        due("its THINGS", x.count(1), 2);
        x.put(5, 2);
        due("restore(0) again", x.restore(0), 1);
        due("what was put is gone", x.count(4), 0);
        due("restore(1) again", x.restore(1), 1);
        due("its SAYING", x.said(2), 12);
        due("plus by it", x.plus(5, -1), 2);
        due("the tape is read", x.tongue(), 1);
        due("plus by another TONGUE", x.plus(5, -1), 0);
        due("restore(1) once more", x.restore(1), 1);
        due("plus by the IMAGE's", x.plus(5, -1), 2);
        x.ask(2, 0);
        x.drop(7);
        Checks.tongue(x, "thing 4 0;");
        x.restore(0);
        x.image(1);
        due("THE TRACE stays", x.trace(0), 11);
        due("fault() stays", x.fault(), 2);
        due("status() stays", x.status(), 1);
        Document.says("Promise 21", "BAD;");
        for (int k : new int[] {-1, 2, LEAST, GREATEST}) {
            Ready.bad("restore(" + k + ")", y -> y.restore(k));
            due("of a new object restore(" + k + ")", new SaidByTimes().restore(k), Checks.BAD);
        }
        Document.says("Promise 21", "STATE: none was kept.");
        Ready.state("restore(1)", y -> y.restore(1));
        due("restore(0) of a new object", new SaidByTimes().restore(0), Checks.STATE);
        due("restore(1) of a new object", new SaidByTimes().restore(1), Checks.STATE);
    }
}
