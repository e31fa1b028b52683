/** Promises 6 to 12. */
public final class TonguesTest {
    private static final String FAMILY =
        "thing 2 0;thing 3 or 7 1;thing 5 0;rule 0 1 3;pair 0 1;";

    public static void main(String[] args) {
        feed();
        tapeIsFull();
        tonguesThatAreRead();
        blanks();
        faultsOfForm();
        faultsOfNumbers();
        faultsOfRoom();
        faultLeavesAll();
        tongueTakesThePlace();
        put();
        say();
        sayRefused();
        apart();
        judgedByRules();
        judgedByPairs();
        Checks.end();
    }

    private static void feed() {
        SaidByTimes x = new SaidByTimes();
        Checks.due("feed(0, 0)", x.feed(0, 0), Checks.BAD);
        Checks.due("feed(0, 9)", x.feed(0, 9), Checks.BAD);
        Checks.due("feed(0, -1)", x.feed(0, -1), Checks.BAD);
        Checks.due("count(5)", x.count(5), 0);
        // 't' 'h' with other bytes above the lowest two
        Checks.due("feed of the lowest 2", x.feed(0x7878787878787468L, 2), 2);
        Checks.due("feed of 8", x.feed(0x696E67203220303BL, 8), 10);
        Checks.due("count(5)", x.count(5), 10);
        Checks.due("tongue()", x.tongue(), 1);
        Checks.due("the tape is empty", x.count(5), 0);
        Checks.due("a byte above 127", x.feed(-1L, 1), 1);
        Checks.due("is no TOKEN", x.tongue(), Checks.NOT - 100);
        Checks.due("fault()", x.fault(), 1);
        Checks.due("the tape is empty behind a FAULT, too", x.count(5), 0);
    }

    private static void tapeIsFull() {
        SaidByTimes x = new SaidByTimes();
        for (int n = 8; n <= 392; n += 8) {
            Checks.due("feed", x.feed(0x2020202020202020L, 8), n);
        }
        Checks.due("feed of 7", x.feed(0x20202020202020L, 7), 399);
        Checks.due("feed of 2 where 1 has room", x.feed(0x2020L, 2), Checks.FULL);
        Checks.due("none came", x.count(5), 399);
        Checks.due("feed of the last", x.feed(0x20L, 1), 400);
        Checks.due("feed of one more", x.feed(0x20L, 1), Checks.FULL);
        Checks.due("BAD goes ahead of FULL", x.feed(0x20L, 0), Checks.BAD);
        Checks.due("the end is a FAULT", x.tongue(), Checks.NOT - 500);
        Checks.due("there is room again", x.feed(0x20L, 1), 1);
    }

    private static void read(String text, int things, int rules, int pairs) {
        SaidByTimes x = new SaidByTimes();
        Checks.due("read: " + text, Checks.tongue(x, text), things);
        Checks.due("things of: " + text, x.count(1), things);
        Checks.due("rules of: " + text, x.count(2), rules);
        Checks.due("pairs of: " + text, x.count(3), pairs);
        Checks.due("no fault of: " + text, x.fault(), 0);
    }

    private static void tonguesThatAreRead() {
        read("thing 2 0;", 1, 0, 0);
        read("thing 199 4;", 1, 0, 0);
        read(FAMILY, 3, 1, 1);
        read("thing 2 or 3 0;rule 4 0 9;rule 3 9 9;rule 2 0 0;rule 1 1 1;rule 0 5 6;", 1, 5, 0);
        read("thing 2 0;thing 3 0;pair 1 0;pair 0 1;pair 1 0;pair 0 1;pair 0 1;pair 0 1;pair 0 1;pair 0 1;",
            2, 0, 8);
        read("thing 2 0;thing 3 0;thing 5 0;thing 7 0;thing 11 0;thing 13 0;thing 17 0;thing 19 0;"
            + "thing 23 0;thing 29 0;thing 31 0;thing 37 0;pair 11 10;", 12, 0, 1);
        read("thing 002 or 003 04;rule 004 00 009;", 1, 1, 0);
    }

    private static void blanks() {
        read("  \n thing\n2  or \n 3 0 ; \n", 1, 0, 0);
        read("thing2or3 0;thing5 0;rule0 1 2;pair0 1;", 2, 1, 1);
        read("thing 2 0;rule\n0\n1\n2\n;", 1, 1, 0);
        fault("thing 2 0;\t", 1, 10);
        fault("thing\r2 0;", 1, 5);
    }

    private static void fault(String text, int number, int place) {
        SaidByTimes x = new SaidByTimes();
        Checks.due("FAULT's place: " + text, Checks.tongue(x, text), Checks.NOT - 100 - place);
        Checks.due("FAULT's number: " + text, x.fault(), number);
        Checks.due("no TONGUE: " + text, x.count(1), 0);
        Checks.due("no tape: " + text, x.count(5), 0);
    }

    private static void faultsOfForm() {
        fault("", 1, 0);
        fault("   ", 1, 3);
        fault("thing", 1, 5);
        fault("thing  \n", 1, 8);
        fault("thin 2 0;", 1, 0);
        fault("things 2 0;", 1, 0);
        fault("Thing 2 0;", 1, 0);
        fault("thing;", 1, 5);
        fault("thinga 2 0;", 1, 0);
        fault("thingz 2 0;", 1, 0);
        fault("xhing 2 0;", 1, 0);
        fault("thinx 2 0;", 1, 0);
        fault("thing 2 0;xule 0 1 1;", 1, 10);
        fault("thing 2 0?", 1, 9);
        fault("thing 2 0:", 1, 9);
        fault("thing 2 or/3 0;", 1, 10);
        fault("thing 2 o`3 0;", 1, 8);
        fault("thing 2 0;{", 1, 10);
        fault("thing or 2 0;", 1, 6);
        fault("thing 2;", 1, 7);
        fault("thing 2 or;", 1, 10);
        fault("thing 2 or 3;", 1, 12);
        fault("thing 2 or 3 or 5 0;", 1, 13);
        fault("thing 2 of 3 0;", 1, 8);
        fault("thing 2 0", 1, 9);
        fault("thing 2 0 ", 1, 10);
        fault("thing 2 0 0;", 1, 10);
        fault("thing 2 0;;", 1, 10);
        fault("thing 2 0;x", 1, 10);
        fault("thing 2 0;or", 1, 10);
        fault("thing 2 0;2", 1, 10);
        fault("thing 1234 0;", 1, 6);
        fault("thing 0002 0;", 1, 6);
        fault("thing 2 0000;", 1, 8);
        fault("thing 2 -1;", 1, 8);
        fault("thing 2 0;rule", 1, 14);
        fault("thing 2 0;rule 0 1;", 1, 18);
        fault("thing 2 0;rule 0 1 2 3;", 1, 21);
        fault("thing 2 0;pair 0;", 1, 16);
        fault("thing 2 0;thing 3 0;pair 0 1 0;", 1, 29);
        fault("rule 0 1 1;", 1, 0);
        fault("pair 0 1;", 1, 0);
        fault("thing 2 0;rule 0 1 1;thing 3 0;", 1, 21);
        fault("thing 2 0;thing 3 0;pair 0 1;rule 0 1 1;", 1, 29);
        fault("thing 2 0;thing 3 0;pair 0 1;thing 5 0;", 1, 29);
        fault("thing 2 0;\"", 1, 10);
        fault("thing 2 0;" + (char) 0, 1, 10);
        fault("thing 2 0;" + (char) 225, 1, 10);
    }

    private static void faultsOfNumbers() {
        fault("thing 0 0;", 2, 6);
        fault("thing 1 0;", 2, 6);
        fault("thing 4 0;", 2, 6);
        fault("thing 169 0;", 2, 6);
        fault("thing 200 0;", 2, 6);
        fault("thing 211 0;", 2, 6);
        fault("thing 999 0;", 2, 6);
        fault("thing 2 5;", 2, 8);
        fault("thing 2 999;", 2, 8);
        fault("thing 2 or 2 0;", 2, 11);
        fault("thing 2 or 9 0;", 2, 11);
        fault("thing 2 or 1 0;", 2, 11);
        fault("thing 2 or 211 0;", 2, 11);
        fault("thing 2 0;thing 2 0;", 2, 16);
        fault("thing 2 or 3 0;thing 3 0;", 2, 21);
        fault("thing 2 0;thing 3 or 2 0;", 2, 21);
        fault("thing 2 or 5 0;thing 3 or 5 0;", 2, 26);
        fault("thing 2 0;rule 5 0 1;", 2, 15);
        fault("thing 2 0;rule 0 10 10;", 2, 17);
        fault("thing 2 0;rule 0 1 10;", 2, 19);
        fault("thing 2 0;rule 0 2 1;", 2, 19);
        fault("thing 2 0;rule 0 1 1;rule 0 1 1;", 2, 26);
        fault("thing 2 0;rule 0 1 1;rule 1 1 1;rule 2 1 1;rule 3 1 1;rule 4 1 1;rule 3 1 1;", 2, 70);
        fault("thing 2 0;pair 0 0;", 2, 17);
        fault("thing 2 0;pair 1 0;", 2, 15);
        fault("thing 2 0;pair 0 1;", 2, 17);
        fault("thing 2 0;thing 3 0;pair 0 2;", 2, 27);
        fault("thing 4 or ?", 2, 6);
        for (int n = 0; n < 999; n++) {
            SaidByTimes x = new SaidByTimes();
            long due = n <= 199 && isPrime(n) ? 1 : Checks.NOT - 106;
            Checks.due("thing " + n, Checks.tongue(x, "thing " + n + " 0;"), due);
        }
    }

    private static boolean isPrime(int n) {
        return java.math.BigInteger.valueOf(n).isProbablePrime(40);
    }

    private static void faultsOfRoom() {
        String twelve = "thing 2 0;thing 3 0;thing 5 0;thing 7 0;thing 11 0;thing 13 0;thing 17 0;"
            + "thing 19 0;thing 23 0;thing 29 0;thing 31 0;thing 37 0;";
        fault(twelve + "thing 41 0;", 3, twelve.length());
        fault(twelve + "thing", 3, twelve.length());
        fault(twelve + " thing 4", 3, twelve.length() + 1);
        fault(twelve + "thinge", 1, twelve.length());
        String eight = "thing 2 0;thing 3 0;"
            + "pair 0 1;pair 0 1;pair 0 1;pair 0 1;pair 0 1;pair 0 1;pair 0 1;pair 0 1;";
        fault(eight + "pair 0 0;", 3, eight.length());
        fault(eight + "thing 5 0;", 1, eight.length());
        fault(twelve + "rule 0 1 1;thing 41 0;", 1, twelve.length() + 11);
    }

    private static void faultLeavesAll() {
        SaidByTimes x = Checks.speaking(FAMILY);
        x.put(0, 20);
        x.ask(0, 0);
        x.row(0, 0, 4);
        x.image(0);
        Checks.due("a FAULT", Checks.tongue(x, "thing 11 0;rule 0 1 1;pair 0 9;"), Checks.NOT - 129);
        Checks.due("fault()", x.fault(), 2);
        Checks.due("THINGS stay", x.count(1), 3);
        Checks.due("rules stay", x.count(2), 1);
        Checks.due("pairs stay", x.count(3), 1);
        Checks.due("SAYINGS stay", x.said(0), 20);
        Checks.due("they are judged as ahead", x.apart(0, -2), 1);
        Checks.due("ROWS stay", x.count(0), 1);
        Checks.due("THE TRACE stays", x.trace(0), 11);
        Checks.due("a TONGUE that is read", Checks.tongue(x, "thing 2 0;"), 1);
        Checks.due("the latest FAULT is told still", x.fault(), 2);
        Checks.due("another FAULT", Checks.tongue(x, "thing"), Checks.NOT - 105);
        Checks.due("the latest one is told", x.fault(), 1);
    }

    private static void tongueTakesThePlace() {
        SaidByTimes x = Checks.speaking(FAMILY);
        x.put(0, 20);
        x.put(7, 3);
        x.row(3, 0, 2);
        x.image(1);
        Checks.due("another TONGUE", Checks.tongue(x, "thing 11 or 2 3;thing 13 4;"), 2);
        Checks.due("THINGS", x.count(1), 2);
        Checks.due("no rules of the one before", x.count(2), 0);
        Checks.due("no pairs of the one before", x.count(3), 0);
        Checks.due("no SAYINGS", x.count(4), 0);
        Checks.due("no SAYING", x.said(7), Checks.NONE);
        Checks.due("ROWS stay", x.count(0), 1);
        x.put(0, 22 * 13);
        Checks.due("the first THING by both", x.apart(0, 0), 2);
        Checks.due("the second THING", x.apart(0, 1), 1);
        Checks.due("no third THING", x.apart(0, 2), Checks.BAD);
        Checks.due("IMAGES stay", x.restore(1), 1);
        Checks.due("SAYINGS are back", x.said(7), 3);
    }

    private static void put() {
        SaidByTimes x = new SaidByTimes();
        Checks.due("put(0, 1)", x.put(0, 1), 1);
        Checks.due("said(0)", x.said(0), 1);
        Checks.due("put(7, greatest)", x.put(7, 1000000000000000L), 1);
        Checks.due("said(7)", x.said(7), 1000000000000000L);
        Checks.due("put anew", x.put(0, 6), 1);
        Checks.due("put(0, 0)", x.put(0, 0), Checks.BAD);
        Checks.due("put(0, -1)", x.put(0, -1), Checks.BAD);
        Checks.due("put too great", x.put(0, 1000000000000001L), Checks.BAD);
        Checks.due("put the greatest long", x.put(0, Long.MAX_VALUE), Checks.BAD);
        Checks.due("put(-1, 1)", x.put(-1, 1), Checks.BAD);
        Checks.due("put(8, 1)", x.put(8, 1), Checks.BAD);
        Checks.due("said(0) stays", x.said(0), 6);
        Checks.due("said(1)", x.said(1), Checks.NONE);
        Checks.due("said(-1)", x.said(-1), Checks.BAD);
        Checks.due("said(8)", x.said(8), Checks.BAD);
        Checks.due("count(4)", x.count(4), 2);
    }

    private static void say() {
        SaidByTimes x = Checks.speaking(FAMILY);
        Checks.ints(x, 0, 0, 1, 2, 21, 0, 20, 22, 3, -1, 12, 40);
        Checks.due("say 2 3 5", x.say(0, 0, 0, 3), 30);
        Checks.due("said(0)", x.said(0), 30);
        Checks.due("say 5 7 2", x.say(1, 0, 2, 3), 70);
        Checks.due("say nothing", x.say(2, 0, 3, 0), 1);
        Checks.due("say nothing from the end", x.say(3, 0, 11, 0), 1);
        Checks.due("nothing is the SAYING 1", x.said(3), 1);
        Checks.due("say anew", x.say(0, 0, 3, 1), 7);
        Checks.due("said(0)", x.said(0), 7);
        for (int i = 5; i < 11; i++) {
            Checks.due("an ITEM that is none: " + i, x.say(0, 0, i, 1), Checks.BAD);
        }
        Checks.due("said(0) stays", x.said(0), 7);
        x.row(1, 0, 40);
        Checks.due("20 THINGS", x.say(0, 1, 20, 20), 1048576);
        Checks.due("21 THINGS", x.say(0, 1, 0, 21), Checks.BAD);
        x.set(0, 0, 20);
        Checks.tongue(x, "thing 5 or 11 0;");
        Checks.due("THING 0 by its other NUMBER", x.say(0, 0, 0, 1), 11);
        Checks.due("a THING of the TONGUE before", x.say(0, 0, 1, 1), Checks.BAD);
        Checks.due("the other NUMBER of one", x.say(0, 0, 3, 1), Checks.BAD);
        x.put(0, 5 * 3 * 7);
        Checks.due("what the TONGUE before told is REST", x.apart(0, -1), 21);
        SaidByTimes none = new SaidByTimes();
        none.row(0, 0, 3);
        Checks.due("nothing, without a TONGUE", none.say(0, 0, 0, 0), 1);
        Checks.due("something, without a TONGUE", none.say(0, 0, 0, 1), Checks.BAD);
    }

    private static void sayRefused() {
        SaidByTimes x = Checks.speaking("thing 199 0;thing 197 0;thing 2 or 5 0;");
        Checks.ints(x, 0, 0, 0, 0, 0, 0, 0, 1, 3);
        x.put(0, 77);
        Checks.due("TOO LONG", x.say(0, 0, 0, 7), Checks.FULL);
        Checks.due("BAD goes ahead of FULL", x.say(0, 0, 0, 8), Checks.BAD);
        Checks.due("PLACE goes ahead of BAD", x.say(0, 0, 0, 9), Checks.PLACE);
        Checks.due("just not TOO LONG", x.say(1, 0, 0, 6), 62103840598801L);
        Checks.due("SLOT -1", x.say(-1, 0, 0, 1), Checks.BAD);
        Checks.due("SLOT 8", x.say(8, 1, 0, 1), Checks.BAD);
        Checks.due("ROW -1", x.say(0, -1, 0, 1), Checks.BAD);
        Checks.due("ROW 8", x.say(0, 8, 0, 1), Checks.BAD);
        Checks.due("n -1", x.say(0, 1, 0, -1), Checks.BAD);
        Checks.due("n 21", x.say(0, 1, 0, 21), Checks.BAD);
        Checks.due("a ROW that is missing", x.say(0, 1, -1, 1), Checks.NULL);
        Checks.due("nothing of a missing ROW", x.say(0, 1, 0, 0), Checks.NULL);
        Checks.due("from -1", x.say(0, 0, -1, 1), Checks.PLACE);
        Checks.due("from behind the end", x.say(0, 0, 9, 0), Checks.PLACE);
        Checks.due("from the greatest", x.say(0, 0, Integer.MAX_VALUE, 20), Checks.PLACE);
        Checks.due("said(0) stays", x.said(0), 77);
        Checks.ints(x, 0, 22, 22, 22, 22, 22, 22, 22, 22, 22, 22, 22, 22, 22, 22, 22,
            2, 2, 2, 2, 2, 2, 2, 2, 2, 2, 2, 2, 2, 2, 2, 2);
        x.say(2, 0, 0, 15);
        Checks.due("5 fifteen times", x.said(2), 30517578125L);
        Checks.due("5 fifteen times, 2 five times", x.say(2, 0, 0, 20), 976562500000L);
        SaidByTimes y = Checks.speaking("thing 2 0;thing 5 0;thing 199 0;");
        y.row(0, 0, 20);
        int[] all = {0, 0, 0, 0, 0, 0, 0, 0, 1, 1, 1, 1, 1, 1, 1, 1, 2, 2, 2, 2};
        for (int i = 0; i < all.length; i++) {
            y.set(0, i, all[i]);
        }
        Checks.due("far TOO LONG", y.say(0, 0, 0, 20), Checks.FULL);
        SaidByTimes ten = Checks.speaking("thing 2 0;thing 5 0;thing 101 or 103 0;thing 109 0;thing 181 0;");
        ten.row(0, 0, 20);
        Checks.due("2 twenty times", ten.say(0, 0, 0, 20), 1048576);
    }

    private static void apart() {
        SaidByTimes x = Checks.speaking(FAMILY);
        x.put(0, 4L * 3 * 49 * 11 * 13);
        Checks.due("THING 0", x.apart(0, 0), 2);
        Checks.due("THING 1 by both its NUMBERS", x.apart(0, 1), 3);
        Checks.due("THING 2", x.apart(0, 2), 0);
        Checks.due("REST", x.apart(0, -1), 143);
        Checks.due("GOOD", x.apart(0, -2), 0);
        Checks.due("THING 3", x.apart(0, 3), Checks.BAD);
        Checks.due("THING -3", x.apart(0, -3), Checks.BAD);
        Checks.due("SLOT -1", x.apart(-1, 0), Checks.BAD);
        Checks.due("SLOT 8", x.apart(8, 0), Checks.BAD);
        Checks.due("SLOT that holds none", x.apart(1, 0), Checks.STATE);
        Checks.due("BAD goes ahead of STATE", x.apart(1, 3), Checks.BAD);
        x.put(1, 562949953421312L);
        Checks.due("2 forty-nine times", x.apart(1, 0), 49);
        Checks.due("REST 1", x.apart(1, -1), 1);
        SaidByTimes none = new SaidByTimes();
        none.put(0, 30);
        Checks.due("REST without a TONGUE", none.apart(0, -1), 30);
        Checks.due("GOOD without a TONGUE", none.apart(0, -2), 0);
        Checks.due("a THING without a TONGUE", none.apart(0, 0), Checks.BAD);
        none.put(1, 1);
        Checks.due("1 breaks no rule where there is none", none.apart(1, -2), 1);
    }

    private static void good(SaidByTimes x, long saying, long due) {
        x.put(3, saying);
        Checks.due("is " + saying + " GOOD", x.apart(3, -2), due);
    }

    private static void judgedByRules() {
        SaidByTimes x = Checks.speaking("thing 2 0;thing 3 or 7 0;thing 5 1;thing 11 2;rule 0 2 3;rule 2 0 1;");
        good(x, 1, 0);
        good(x, 2, 0);
        good(x, 4, 1);
        good(x, 6, 1);
        good(x, 21, 1);
        good(x, 42, 1);
        good(x, 8, 1);
        good(x, 16, 0);
        good(x, 84, 0);
        good(x, 4 * 11, 1);
        good(x, 4 * 121, 0);
        good(x, 4L * 5 * 5 * 5 * 5 * 5 * 5 * 5 * 5 * 5 * 5 * 5, 1);
        good(x, 4 * 13, 0);
        SaidByTimes exact = Checks.speaking("thing 2 4;rule 4 9 9;");
        good(exact, 512, 1);
        good(exact, 256, 0);
        good(exact, 1024, 0);
        SaidByTimes nowhere = Checks.speaking("thing 2 0;rule 3 1 2;");
        good(nowhere, 2, 0);
        SaidByTimes zero = Checks.speaking("thing 2 0;thing 3 1;rule 0 0 0;");
        good(zero, 3, 1);
        good(zero, 6, 0);
    }

    private static void judgedByPairs() {
        SaidByTimes x = Checks.speaking("thing 2 0;thing 3 or 7 0;thing 5 1;pair 0 1;pair 2 1;");
        good(x, 1, 1);
        good(x, 8, 1);
        good(x, 6, 0);
        good(x, 14, 0);
        good(x, 10, 1);
        good(x, 21, 1);
        good(x, 15, 0);
        good(x, 30, 0);
        good(x, 11, 0);
    }
}
