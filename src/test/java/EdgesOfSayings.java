/** What the document says of a SAYING, a sentence at a time: block 2 of its Terms, promises 9 to 12. */
final class EdgesOfSayings {
    private static final long LONGEST = Checks.LONGEST;
    private static final int LEAST = Integer.MIN_VALUE;
    private static final int GREATEST = Integer.MAX_VALUE;

    private EdgesOfSayings() {
    }

    static void all() {
        saying();
        takenApart();
        good();
        slots();
        tooLong();
        put();
        say();
        sayRefused();
        sayFull();
        said();
        apart();
    }

    private static void due(String what, long got, long want) {
        Checks.due(what, got, want);
    }

    private static void saying() {
        Document.says("2", "A SAYING is a number 1 to 1000000000000000.");
        SaidByTimes x = new SaidByTimes();
        due("1", x.put(0, 1), 1);
        due("1", x.said(0), 1);
        due("the longest", x.put(1, LONGEST), 1);
        due("the longest", x.said(1), LONGEST);
        for (long none : new long[] {0, -1, LONGEST + 1, -LONGEST, Long.MAX_VALUE, Long.MIN_VALUE, 1L << 32 << 31}) {
            due("put(0, " + none + ")", x.put(0, none), Checks.BAD);
        }
        due("it stays", x.said(0), 1);
    }

    private static void apart(SaidByTimes x, long saying, long rest, long... often) {
        x.put(3, saying);
        for (int t = 0; t < often.length; t++) {
            due(saying + ": how often THING " + t, x.apart(3, t), often[t]);
        }
        due(saying + ": its REST", x.apart(3, -1), rest);
    }

    private static void takenApart() {
        Document.says("2", "TAKEN APART: by how often each NUMBER goes into it;");
        SaidByTimes x = Checks.speaking("thing 2 0;thing 5 0;thing 199 0;");
        apart(x, 1, 1, 0, 0, 0);
        apart(x, 2, 1, 1, 0, 0);
        apart(x, LONGEST, 1, 15, 15, 0);
        apart(x, 562949953421312L, 1, 49, 0, 0);
        apart(x, 199L * 199 * 199 * 199 * 199 * 199, 1, 0, 0, 6);
        Document.says("2", "the REST: what is left then;");
        apart(x, 3, 3, 0, 0, 0);
        apart(x, 2 * 3 * 3 * 5, 9, 1, 1, 0);
        apart(x, 211, 211, 0, 0, 0);
        apart(x, 199L * 211, 211, 0, 0, 1);
        apart(x, LONGEST - 11, 999999999999989L, 0, 0, 0);
        SaidByTimes silent = new SaidByTimes();
        apart(silent, 30, 30);
        apart(silent, 1, 1);
        Document.says("2", "a THING stands in it as often as its NUMBER, and its other one, together.");
        SaidByTimes y = Checks.speaking("thing 7 or 3 0;thing 2 0;");
        apart(y, 3, 1, 1, 0);
        apart(y, 7, 1, 1, 0);
        apart(y, 21, 1, 2, 0);
        apart(y, 27 * 49 * 4, 1, 5, 2);
        apart(y, 27 * 49 * 4 * 5, 5, 5, 2);
    }

    private static void isGood(SaidByTimes x, long saying, long due) {
        x.put(3, saying);
        due("is " + saying + " GOOD", x.apart(3, -2), due);
    }

    private static void good() {
        Document.says("2", "It is GOOD, if the REST is 1,");
        SaidByTimes x = Checks.speaking("thing 2 0;thing 3 or 7 0;");
        isGood(x, 1, 1);
        isGood(x, 42, 1);
        isGood(x, 5, 0);
        isGood(x, 42 * 5, 0);
        isGood(x, 211 * 2, 0);
        Document.says("2", "of each SORT that has a rule there stand LOW to HIGH THINGS together");
        SaidByTimes y = Checks.speaking("thing 2 0;thing 3 0;thing 5 1;thing 7 2;rule 0 2 3;rule 1 0 1;");
        isGood(y, 1, 0);
        isGood(y, 2, 0);
        isGood(y, 6, 1);
        isGood(y, 4, 1);
        isGood(y, 12, 1);
        isGood(y, 36, 0);
        isGood(y, 6 * 5, 1);
        isGood(y, 6 * 25, 0);
        isGood(y, 6L * 7 * 7 * 7 * 7 * 7 * 7 * 7 * 7 * 7 * 7 * 7, 1);
        SaidByTimes none = Checks.speaking("thing 2 0;thing 3 1;rule 0 0 0;");
        isGood(none, 1, 1);
        isGood(none, 9, 1);
        isGood(none, 2, 0);
        SaidByTimes nine = Checks.speaking("thing 2 4;rule 4 9 9;");
        isGood(nine, 256, 0);
        isGood(nine, 512, 1);
        isGood(nine, 1024, 0);
        SaidByTimes empty = Checks.speaking("thing 2 0;rule 3 1 2;");
        isGood(empty, 2, 0);
        isGood(empty, 1, 0);
        SaidByTimes emptyToo = Checks.speaking("thing 2 0;rule 3 0 2;");
        isGood(emptyToo, 2, 1);
        Document.says("2", "(each as often as it stands),");
        SaidByTimes often = Checks.speaking("thing 2 or 11 0;thing 3 0;rule 0 3 3;");
        isGood(often, 8, 1);
        isGood(often, 4 * 11, 1);
        isGood(often, 2 * 11 * 3, 1);
        isGood(often, 2 * 3, 0);
        isGood(often, 2 * 11, 0);
        isGood(often, 4 * 11 * 3, 0);
        Document.says("2", "and no PAIR stands together.");
        SaidByTimes pair = Checks.speaking("thing 2 0;thing 3 or 7 0;thing 5 0;pair 0 1;pair 2 1;");
        isGood(pair, 2, 1);
        isGood(pair, 21, 1);
        isGood(pair, 6, 0);
        isGood(pair, 14, 0);
        isGood(pair, 15, 0);
        isGood(pair, 35, 0);
        isGood(pair, 10, 1);
        isGood(pair, 1, 1);
    }

    private static void slots() {
        Document.says("2", "SLOTS 0 .. 7 hold a SAYING each, or none.");
        SaidByTimes x = new SaidByTimes();
        for (int slot = 0; slot <= 7; slot++) {
            due("none in " + slot, x.said(slot), Checks.NONE);
            due("put(" + slot + ")", x.put(slot, 10 + slot), 1);
            due("count(4)", x.count(4), slot + 1);
        }
        for (int slot = 0; slot <= 7; slot++) {
            due("said(" + slot + ")", x.said(slot), 10 + slot);
        }
        due("SLOT -1", x.put(-1, 1), Checks.BAD);
        due("SLOT 8", x.put(8, 1), Checks.BAD);
        due("SLOT -1", x.said(-1), Checks.BAD);
        due("SLOT 8", x.said(8), Checks.BAD);
    }

    private static void sayTimes(SaidByTimes x, int row, int... items) {
        Checks.ints(x, row, items);
    }

    private static void tooLong() {
        Document.says("2", "(What is made by times and is above 1000000000000000 is TOO LONG.)");
        SaidByTimes x = Checks.speaking(
            "thing 2 0;thing 11 0;thing 19 0;thing 29 0;thing 41 0;thing 67 0;thing 83 0;thing 137 0;thing 139 0;");
        sayTimes(x, 0, 0, 1, 2, 2, 3, 4, 5, 6, 7, 8);
        due("just not", x.say(0, 0, 0, 10), 999999999617674L);
        SaidByTimes y = Checks.speaking(
            "thing 3 0;thing 37 0;thing 59 0;thing 127 0;thing 131 0;thing 137 0;thing 163 0;");
        sayTimes(y, 0, 0, 0, 1, 2, 3, 4, 5, 5, 6);
        due("just so", y.say(0, 0, 0, 9), Checks.FULL);
        due("none is held", y.said(0), Checks.NONE);
        x.put(0, 500000000000000L);
        x.put(1, 16);
        due("EITHER that is the longest", x.put(2, LONGEST) + x.both(0, 2, 1), LONGEST + 1);
        x.put(0, 1001);
        x.put(1, 999000999001L);
        due("EITHER of the longest and 1", x.both(0, 1, 1), Checks.NONE);
    }

    private static void put() {
        Document.says("Promise 9", "A SLOT holds a SAYING as a number: 1.");
        SaidByTimes x = new SaidByTimes();
        due("SLOT 0", x.put(0, 1), 1);
        due("SLOT 7", x.put(7, LONGEST), 1);
        due("anew", x.put(0, 211), 1);
        due("said(0)", x.said(0), 211);
        due("said(7)", x.said(7), LONGEST);
        due("SLOTS", x.count(4), 2);
        Document.says("Promise 9", "BAD.");
        for (int slot : new int[] {-1, 8, LEAST, GREATEST}) {
            Ready.bad("put(" + slot + ", 1)", y -> y.put(slot, 1));
        }
        for (long saying : new long[] {0, -1, LONGEST + 1, Long.MIN_VALUE, Long.MAX_VALUE}) {
            Ready.bad("put(0, " + saying + ")", y -> y.put(0, saying));
            Ready.bad("put(1, " + saying + ")", y -> y.put(1, saying));
        }
    }

    private static void say() {
        Document.says("Promise 10", "A SLOT holds the SAYING of n THINGS (0 to 20),");
        SaidByTimes x = Checks.speaking("thing 2 or 13 0;thing 3 0;thing 5 or 7 0;");
        Checks.ints(x, 0, 1, 2, 0, 22, 20, 21, 3, 23, -1, 12, 19, 32);
        due("one", x.say(0, 0, 0, 1), 3);
        due("three", x.say(1, 0, 0, 3), 30);
        due("it holds", x.said(1), 30);
        due("none", x.say(2, 0, 0, 0), 1);
        due("none is the SAYING 1", x.said(2), 1);
        due("none, of a ROW with no ITEMS", x.row(1, 0, 0) + x.say(3, 1, 0, 0), 1);
        x.row(2, 0, 40);
        due("20", x.say(7, 2, 0, 20), 1 << 20);
        due("it holds", x.said(7), 1 << 20);
        due("21", x.say(7, 2, 0, 21), Checks.BAD);
        due("anew", x.say(7, 2, 0, 2), 4);
        due("it holds", x.said(7), 4);
        Document.says("Promise 10", "ITEMS of a ROW from i on");
        due("from 2 on", x.say(0, 0, 2, 2), 2 * 7);
        due("the last 20 of 40", x.say(0, 2, 20, 20), 1 << 20);
        due("none from the end on", x.say(0, 0, 12, 0), 1);
        due("none from amid them on", x.say(0, 0, 7, 0), 1);
        Document.says("Promise 10", "(20 and a THING: by its other NUMBER):");
        due("THING 2", x.say(0, 0, 3, 1), 7);
        due("THING 0", x.say(0, 0, 4, 1), 13);
        due("THING 1 has none", x.say(0, 0, 5, 1), Checks.BAD);
        SaidByTimes twelve = Checks.speaking("thing 2 0;thing 3 0;thing 5 0;thing 7 0;thing 11 0;thing 13 0;"
            + "thing 17 0;thing 19 0;thing 23 0;thing 29 0;thing 31 0;thing 37 or 199 0;");
        Checks.ints(twelve, 0, 11, 31, 12, 32, 30);
        due("THING 11", twelve.say(0, 0, 0, 1), 37);
        due("THING 11 by its other NUMBER", twelve.say(0, 0, 1, 1), 199);
        due("THING 11 by both", twelve.say(0, 0, 0, 2), 37 * 199);
        due("12 is none", twelve.say(0, 0, 2, 1), Checks.BAD);
        due("32 is none", twelve.say(0, 0, 3, 1), Checks.BAD);
        due("30 has no other NUMBER", twelve.say(0, 0, 4, 1), Checks.BAD);
        Document.says("Promise 10", "the number.");
        due("3 by 5 by 2 by 7 by 13", x.say(0, 0, 0, 5), 3 * 5 * 2 * 7 * 13);
        due("it is said", x.said(0), 3 * 5 * 2 * 7 * 13);
        due("it is taken apart by both", x.apart(0, 0), 2);
    }

    private static void sayRefused() {
        Document.says("Promise 10", "BAD: SLOT,");
        for (int none : new int[] {-1, 8, LEAST, GREATEST}) {
            Ready.bad("say(" + none + ", 0, 0, 1)", x -> x.say(none, 0, 0, 1));
            Ready.bad("say(" + none + ", 2, -1, 1)", x -> x.say(none, 2, -1, 1));
        }
        Document.says("Promise 10", "ROW,");
        for (int none : new int[] {-1, 8, LEAST, GREATEST}) {
            Ready.bad("say(0, " + none + ", 0, 1)", x -> x.say(0, none, 0, 1));
        }
        Document.says("Promise 10", "n;");
        for (int n : new int[] {-1, 21, LEAST, GREATEST}) {
            Ready.bad("say(0, 0, 0, " + n + ")", x -> x.say(0, 0, 0, n));
            Ready.bad("say(0, 2, 0, " + n + ")", x -> x.say(0, 2, 0, n));
        }
        Document.says("Promise 10", "NULL;");
        Ready.isNull("say(0, 2, 0, 1)", x -> x.say(0, 2, 0, 1));
        Ready.isNull("say(0, 2, 0, 0)", x -> x.say(0, 2, 0, 0));
        Ready.isNull("say(0, 2, -1, 20)", x -> x.say(0, 2, -1, 20));
        Document.says("Promise 10", "PLACE;");
        Ready.place("say(0, 0, -1, 1)", x -> x.say(0, 0, -1, 1));
        Ready.place("say(0, 0, -1, 0)", x -> x.say(0, 0, -1, 0));
        Ready.place("say(0, 0, 6, 1)", x -> x.say(0, 0, 6, 1));
        Ready.place("say(0, 0, 0, 7)", x -> x.say(0, 0, 0, 7));
        Ready.place("say(0, 0, 7, 0)", x -> x.say(0, 0, 7, 0));
        Ready.place("say(0, 5, 0, 1)", x -> x.say(0, 5, 0, 1));
        Ready.place("say(0, 0, greatest, 20)", x -> x.say(0, 0, GREATEST, 20));
        Ready.place("say(0, 0, least, 20)", x -> x.say(0, 0, LEAST, 20));
        Document.says("Promise 10", "then BAD: an ITEM that is none;");
        for (int none : new int[] {4, 12, 19, 24, 32, -1, LEAST, GREATEST, 20, 22, 23}) {
            SaidByTimes x = Ready.object();
            x.set(0, 1, none);
            due("of an ITEM " + none, x.say(0, 0, 0, 2), Checks.BAD);
            due("PLACE goes ahead", x.say(0, 0, 1, 6), Checks.PLACE);
            due("it holds what it held", x.said(0), 36);
        }
        SaidByTimes silent = new SaidByTimes();
        silent.row(0, 0, 1);
        due("without a TONGUE each ITEM is none", silent.say(0, 0, 0, 1), Checks.BAD);
        due("without a TONGUE none is the SAYING 1", silent.say(0, 0, 0, 0), 1);
    }

    private static void sayFull() {
        Document.says("Promise 10", "FULL: TOO LONG.");
        SaidByTimes x = Checks.speaking("thing 2 0;thing 199 0;thing 197 0;thing 193 0;thing 191 0;thing 181 0;"
            + "thing 179 0;thing 173 0;thing 167 0;thing 163 0;thing 157 0;thing 151 0;");
        x.put(4, 77);
        Checks.ints(x, 0, 1, 1, 1, 1, 1, 1, 1, 12);
        due("199 six times", x.say(3, 0, 0, 6), 62103840598801L);
        due("199 seven times", x.say(4, 0, 0, 7), Checks.FULL);
        due("an ITEM that is none goes ahead", x.say(4, 0, 0, 8), Checks.BAD);
        due("it holds what it held", x.said(4), 77);
        // By 64 bits these come out again between 1 and the longest.
        Checks.ints(x, 1, 7, 3, 11, 1, 4, 0, 5, 10, 6, 10, 10, 8, 2, 6, 0, 11, 0, 3);
        due("what wraps around is TOO LONG", x.say(4, 1, 0, 18), Checks.FULL);
        Checks.ints(x, 1, 7, 8, 6, 11, 8, 4, 5, 10, 0, 3, 11, 5, 11, 4, 1, 10, 8);
        due("what wraps around is TOO LONG", x.say(4, 1, 0, 17), Checks.FULL);
        Checks.ints(x, 1, 0, 0, 7, 5, 11, 7, 10, 6, 10, 7, 6, 2, 6, 8, 9);
        due("what wraps around is TOO LONG", x.say(4, 1, 0, 15), Checks.FULL);
        Checks.ints(x, 1, 1, 1, 1, 1, 1, 1, 1, 1, 1, 1, 1, 1, 1, 1, 1, 1, 1, 1, 1, 1);
        due("199 twenty times", x.say(4, 1, 0, 20), Checks.FULL);
        due("it holds what it held", x.said(4), 77);
        due("no FINDING", x.status(), 0);
    }

    private static void said() {
        Document.says("Promise 11", "The SAYING in a SLOT;");
        SaidByTimes x = new SaidByTimes();
        x.put(0, 1);
        x.put(7, LONGEST);
        due("said(0)", x.said(0), 1);
        due("said(7)", x.said(7), LONGEST);
        Document.says("Promise 11", "NONE.");
        for (int slot = 1; slot < 7; slot++) {
            due("said(" + slot + ")", x.said(slot), -1000000);
        }
        Document.says("Promise 11", "BAD.");
        for (int slot : new int[] {-1, 8, LEAST, GREATEST}) {
            Ready.bad("said(" + slot + ")", y -> y.said(slot));
        }
    }

    private static void apart() {
        Document.says("Promise 12", "Of the SAYING in a SLOT: how often a THING stands in it;");
        SaidByTimes x = Checks.speaking("thing 2 0;thing 3 or 7 0;thing 11 1;rule 1 0 1;");
        x.put(0, 8L * 9 * 7 * 13);
        x.put(7, 11 * 11);
        x.put(6, 1);
        due("THING 0", x.apart(0, 0), 3);
        due("THING 1", x.apart(0, 1), 3);
        due("THING 2", x.apart(0, 2), 0);
        due("THING 2 in another SLOT", x.apart(7, 2), 2);
        Document.says("Promise 12", "its REST (thing = -1);");
        due("13", x.apart(0, -1), 13);
        due("1", x.apart(7, -1), 1);
        due("of the SAYING 1", x.apart(6, -1), 1);
        Document.says("Promise 12", "whether it is GOOD (-2: 1, 0).");
        due("a REST of 13", x.apart(0, -2), 0);
        due("against a rule", x.apart(7, -2), 0);
        due("the SAYING 1", x.apart(6, -2), 1);
        Document.says("Promise 12", "BAD;");
        for (int none : new int[] {-1, 8, LEAST, GREATEST}) {
            Ready.bad("apart(" + none + ", 0)", y -> y.apart(none, 0));
        }
        for (int none : new int[] {-3, 4, 12, LEAST, GREATEST}) {
            Ready.bad("apart(0, " + none + ")", y -> y.apart(0, none));
        }
        SaidByTimes silent = new SaidByTimes();
        silent.put(0, 2);
        due("without a TONGUE there is no THING 0", silent.apart(0, 0), Checks.BAD);
        due("but a REST", silent.apart(0, -1), 2);
        due("and what is GOOD", silent.apart(0, -2), 0);
        Document.says("Promise 12", "STATE: the SLOT holds none (behind BAD).");
        for (int thing = -2; thing <= 3; thing++) {
            int which = thing;
            Ready.state("apart(1, " + thing + ")", y -> y.apart(1, which));
        }
        Ready.bad("apart(1, 4)", y -> y.apart(1, 4));
        Ready.bad("apart(1, -3)", y -> y.apart(1, -3));
        due("without a TONGUE, too", new SaidByTimes().apart(0, 0), Checks.BAD);
        due("without a TONGUE, too", new SaidByTimes().apart(0, -1), Checks.STATE);
    }
}
