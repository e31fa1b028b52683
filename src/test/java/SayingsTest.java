/** Promises 13 to 21. */
public final class SayingsTest {
    private static final long LONGEST = 1000000000000000L;

    public static void main(String[] args) {
        both();
        bothAtTheLimit();
        heard();
        heardAtTheEdges();
        heardByRules();
        dealt();
        dealtTies();
        dealtTooLong();
        dealtRefused();
        secret();
        secretRefused();
        signed();
        plus();
        plusFollowsTheTongue();
        same();
        sameAtTheLimit();
        images();
        imagesRefused();
        Checks.end();
    }

    private static void both() {
        SaidByTimes x = new SaidByTimes();
        x.put(0, 60);
        x.put(1, 42);
        x.put(2, 7);
        x.put(3, 1);
        Checks.due("SHARED", x.both(0, 1, 0), 6);
        Checks.due("EITHER", x.both(0, 1, 1), 420);
        Checks.due("ONE NOT THE OTHER", x.both(0, 1, 2), 10);
        Checks.due("THE OTHER NOT ONE", x.both(1, 0, 2), 7);
        Checks.due("SHARED of strangers", x.both(0, 2, 0), 1);
        Checks.due("EITHER of strangers", x.both(2, 0, 1), 420);
        Checks.due("not the stranger", x.both(0, 2, 2), 60);
        Checks.due("SHARED with itself", x.both(0, 0, 0), 60);
        Checks.due("EITHER with itself", x.both(0, 0, 1), 60);
        Checks.due("itself not itself", x.both(0, 0, 2), 1);
        Checks.due("SHARED with 1", x.both(3, 1, 0), 1);
        Checks.due("1 not the other", x.both(3, 1, 2), 1);
        Checks.due("SLOT -1", x.both(-1, 0, 0), Checks.BAD);
        Checks.due("SLOT 8", x.both(0, 8, 0), Checks.BAD);
        Checks.due("what -1", x.both(0, 1, -1), Checks.BAD);
        Checks.due("what 3", x.both(0, 1, 3), Checks.BAD);
        Checks.due("BAD ahead of STATE", x.both(4, 5, 3), Checks.BAD);
        Checks.due("the first holds none", x.both(4, 0, 0), Checks.STATE);
        Checks.due("the second holds none", x.both(0, 4, 2), Checks.STATE);
    }

    private static void bothAtTheLimit() {
        SaidByTimes x = new SaidByTimes();
        x.put(0, LONGEST);
        x.put(1, LONGEST - 1);
        x.put(2, 31622776L);
        x.put(3, 31622777L);
        x.put(4, 500000000000000L);
        x.put(5, 500000000000001L);
        Checks.due("TOO LONG", x.both(0, 1, 1), Checks.NONE);
        Checks.due("SHARED of great ones", x.both(0, 1, 0), 1);
        Checks.due("just not TOO LONG", x.both(2, 3, 1), 999999993568952L);
        Checks.due("the longest", x.both(0, 4, 1), LONGEST);
        Checks.due("half of it", x.both(0, 4, 2), 2);
        x.put(6, 2);
        Checks.due("just TOO LONG", x.both(5, 6, 1), Checks.NONE);
        Checks.due("not TOO LONG", x.both(4, 6, 1), 500000000000000L);
        // the Fibonacci numbers that take Euclid longest
        x.put(0, 806515533049393L);
        x.put(1, 498454011879264L);
        Checks.due("SHARED of slow ones", x.both(0, 1, 0), 1);
        Checks.due("TOO LONG, slowly", x.both(0, 1, 1), Checks.NONE);
    }

    private static void heardAre(SaidByTimes x, int slot, long... due) {
        Checks.due("heard: how many", x.heard(slot, -1), due.length);
        for (int i = 0; i < due.length; i++) {
            Checks.due("heard " + i, x.heard(slot, i), due[i]);
        }
        Checks.due("heard: not so many", x.heard(slot, due.length), Checks.NONE);
        Checks.due("heard: not so many", x.heard(slot, Integer.MAX_VALUE), Checks.NONE);
    }

    private static void heard() {
        SaidByTimes x = Checks.speaking("thing 2 0;thing 3 0;thing 5 0;");
        x.put(0, 30);
        heardAre(x, 0, 10, 20, 32, 36, 40, 50, 60, 80, 90);
        x.put(1, 7);
        heardAre(x, 1, 1, 2, 3, 4, 5, 6, 8, 9);
        x.put(2, 11);
        heardAre(x, 2, 10, 12, 15, 16, 18, 81);
        x.put(3, 127);
        heardAre(x, 3, 120, 125, 128);
        Checks.due("i -2", x.heard(0, -2), Checks.BAD);
        Checks.due("SLOT -1", x.heard(-1, 0), Checks.BAD);
        Checks.due("SLOT 8", x.heard(8, 0), Checks.BAD);
        Checks.due("SLOT that holds none", x.heard(4, 0), Checks.STATE);
        Checks.due("BAD ahead of STATE", x.heard(4, -2), Checks.BAD);
        Checks.due("what was heard stays", x.said(0), 30);
        x.put(0, 95);
        heardAre(x, 0, 15, 25, 45, 75, 90, 96);
        SaidByTimes y = Checks.speaking("thing 3 0;thing 23 0;thing 29 0;");
        y.put(0, 2002);
        heardAre(y, 0, 2001);
    }

    private static void heardAtTheEdges() {
        SaidByTimes x = Checks.speaking("thing 2 0;thing 5 0;");
        x.put(0, LONGEST);
        heardAre(x, 0);
        x.put(1, 900000000000000L);
        heardAre(x, 1, 100000000000000L, 200000000000000L, 400000000000000L, 500000000000000L,
            800000000000000L);
        x.put(2, 1);
        heardAre(x, 2, 2, 4, 5, 8);
        x.put(3, 110);
        heardAre(x, 3, 100, 160);
        SaidByTimes none = new SaidByTimes();
        none.put(0, 3);
        heardAre(none, 0, 1);
        none.put(0, 31);
        heardAre(none, 0);
    }

    private static void heardByRules() {
        SaidByTimes x = Checks.speaking("thing 2 0;thing 3 0;thing 5 1;rule 1 1 1;pair 0 2;");
        x.put(0, 14);
        heardAre(x, 0, 15);
        x.put(0, 1015);
        heardAre(x, 0, 1215);
    }

    private static void deal(SaidByTimes x, int n, int m, long sum, int... gets) {
        Checks.due("dealt: the sum", x.dealt(0, n, m, -1), sum);
        for (int t = 0; t < gets.length; t++) {
            Checks.due("dealt: whose NUMBER THING " + t + " gets", x.dealt(0, n, m, t), gets[t]);
        }
        Checks.due("dealt: THING n", x.dealt(0, n, m, n), Checks.BAD);
    }

    private static void dealt() {
        SaidByTimes x = Checks.speaking("thing 2 or 101 0;thing 3 0;thing 5 1;thing 7 0;rule 0 9 9;pair 0 1;");
        Checks.ints(x, 0, 1, 3, 2, 99);
        deal(x, 3, 1, 8 * 9 * 5, 2, 0, 1);
        Checks.ints(x, 0, 1, 2, 1, 0);
        deal(x, 2, 2, 12 + 3, 1, 0);
        Checks.ints(x, 0, 0, 3, 0, 3);
        deal(x, 2, 2, 16, 1, 0);
        Checks.ints(x, 0, 0, 0, 0, 3);
        deal(x, 4, 1, 8, 1, 2, 3, 0);
        Checks.ints(x, 0, 3, 0, 0, 0, 0, 1, 0, 0, 0, 0, 3, 0, 0, 0, 0, 2);
        deal(x, 4, 4, 8 + 7 + 27 + 25, 0, 3, 1, 2);
        Checks.due("what is told stays", x.dealt(0, 2, 1, -1), 8);
    }

    private static void dealtTies() {
        SaidByTimes x = Checks.speaking("thing 7 0;thing 2 0;thing 3 0;thing 5 0;thing 11 0;thing 13 0;");
        x.row(0, 0, 24);
        deal(x, 6, 4, 4, 0, 1, 2, 3, 4, 5);
        x.set(0, 3, 1);
        deal(x, 6, 1, 2, 0, 2, 3, 1, 4, 5);
        deal(x, 6, 4, 5, 0, 2, 3, 1, 4, 5);
        Checks.ints(x, 0, 1, 1, 1);
        deal(x, 3, 1, 42, 0, 1, 2);
        Checks.ints(x, 0, 0, 1, 1);
        deal(x, 3, 1, 6, 0, 1, 2);
        Checks.ints(x, 0, 1, 1, 0);
        deal(x, 3, 1, 6, 1, 2, 0);
    }

    private static void dealtTooLong() {
        SaidByTimes x = Checks.speaking("thing 199 0;thing 197 0;thing 2 0;thing 193 0;thing 191 0;thing 3 0;");
        Checks.ints(x, 0, 3, 3, 3, 3, 3, 3);
        deal(x, 6, 1, Checks.NONE, -1000000, -1000000, -1000000, -1000000, -1000000, -1000000);
        deal(x, 4, 1, Checks.NONE, -1000000, -1000000, -1000000, -1000000);
        deal(x, 3, 1, (long) 78406 * 78406 * 78406, 0, 1, 2);
        // THING 2 gets the 199, THINGS 0 and 1 the 197 and the 2
        Checks.ints(x, 0, 3, 3, 1, 0, 0, 3);
        deal(x, 3, 2, 394L * 394 * 394 * 199 + 199L * 199 * 199, 1, 2, 0);
        // the second saying is TOO LONG, and does not count once it is told no more
        Checks.ints(x, 0, 0, 0, 1, 0, 3, 3, 3, 3);
        deal(x, 4, 2, Checks.NONE);
        deal(x, 4, 1, 2, 0, 1, 2, 3);
        // 2 by 193 and 3 by 191 are less than 2 by 191 and 3 by 193
        Checks.ints(x, 0, 3, 3, 0, 0, 0, 0, 0, 0, 3, 3, 0, 0);
        deal(x, 6, 2, 386L * 386 * 386 + 573L * 573 * 573, 2, 3, 4, 5, 0, 1);
        // the 2 by 191 in the first, and once 193; the 3 by 197 in the second
        Checks.ints(x, 0, 3, 3, 1, 0, 0, 0, 0, 0, 0, 3, 3, 0);
        deal(x, 6, 2, 382L * 382 * 382 * 193 + 591L * 591 * 591, 2, 4, 3, 1, 5, 0);
    }

    private static void dealtRefused() {
        SaidByTimes x = Checks.speaking("thing 2 0;thing 3 0;thing 5 0;");
        Checks.ints(x, 0, 1, 2, 3, 0, 4, -1);
        Checks.due("ROW -1", x.dealt(-1, 2, 1, 0), Checks.BAD);
        Checks.due("ROW 8", x.dealt(8, 2, 1, 0), Checks.BAD);
        Checks.due("n 1", x.dealt(0, 1, 1, 0), Checks.BAD);
        Checks.due("n above the THINGS", x.dealt(0, 4, 1, 0), Checks.BAD);
        Checks.due("m 0", x.dealt(0, 2, 0, 0), Checks.BAD);
        Checks.due("m 5", x.dealt(0, 2, 5, 0), Checks.BAD);
        Checks.due("THING -2", x.dealt(0, 2, 1, -2), Checks.BAD);
        Checks.due("THING n", x.dealt(0, 2, 1, 2), Checks.BAD);
        Checks.due("BAD ahead of NULL", x.dealt(1, 2, 5, 0), Checks.BAD);
        Checks.due("a missing ROW", x.dealt(1, 2, 1, 0), Checks.NULL);
        Checks.due("beyond the end", x.dealt(0, 2, 4, 0), Checks.PLACE);
        Checks.due("PLACE ahead of an ITEM", x.dealt(0, 3, 3, 0), Checks.PLACE);
        Checks.due("an ITEM of 4", x.dealt(0, 3, 2, 0), Checks.BAD);
        Checks.due("an ITEM behind them does not count", x.dealt(0, 2, 2, -1), 9 * 2 + 8);
        x.set(0, 5, 3);
        Checks.due("an ITEM of 4 alone", x.dealt(0, 3, 2, -1), Checks.BAD);
        x.set(0, 5, -1);
        x.set(0, 4, 3);
        Checks.due("an ITEM of -1", x.dealt(0, 2, 3, -1), Checks.BAD);
        SaidByTimes seven = Checks.speaking(
            "thing 2 0;thing 3 0;thing 5 0;thing 7 0;thing 11 0;thing 13 0;thing 17 0;");
        seven.row(0, 0, 40);
        Checks.due("n 7", seven.dealt(0, 7, 1, -1), Checks.BAD);
        Checks.due("n 6", seven.dealt(0, 6, 4, 5), 5);
        SaidByTimes none = new SaidByTimes();
        none.row(0, 0, 40);
        Checks.due("without a TONGUE", none.dealt(0, 2, 1, -1), Checks.BAD);
    }

    private static void secret() {
        SaidByTimes x = new SaidByTimes();
        long[] sayings = {60, 4, 3, 5, 12, 15, 20};
        for (int slot = 0; slot < sayings.length; slot++) {
            x.put(slot, sayings[slot]);
        }
        Checks.due("of pairs the least as bits", x.secret(0, 255), 1 << 3 | 1 << 4);
        Checks.due("asked of fewer", x.secret(0, 1 << 5 | 1 << 6 | 1 << 4), 1 << 4 | 1 << 5);
        Checks.due("all three are needed", x.secret(0, 14), 14);
        Checks.due("the fewest, not the least bits", x.secret(0, 2 | 4 | 8 | 1 << 4 | 1 << 5), 1 << 3 | 1 << 4);
        Checks.due("two don't know it", x.secret(0, 6), Checks.NONE);
        Checks.due("none", x.secret(0, 0), Checks.NONE);
        Checks.due("itself does not count", x.secret(0, 1), Checks.NONE);
        Checks.due("an empty one does not count", x.secret(0, 1 << 7 | 14), 14);
        Checks.due("one that says more knows it alone", x.secret(2, 255), 1);
        Checks.due("one that says more", x.secret(1, 254), 1 << 4);
        x.put(7, 1);
        Checks.due("of the SAYING 1: none", x.secret(7, 255), 0);
        Checks.due("of the SAYING 1: none", x.secret(7, 0), 0);
        x.put(7, 8);
        Checks.due("4 is not 8", x.secret(7, 255), Checks.NONE);
        x.put(0, LONGEST);
        x.put(1, 35184372088832L);
        x.put(2, 30517578125L * 7);
        x.put(3, 32768L * 3);
        Checks.due("of the longest", x.secret(0, 14), 6);
    }

    private static void secretRefused() {
        SaidByTimes x = new SaidByTimes();
        x.put(0, 60);
        Checks.due("SLOT -1", x.secret(-1, 0), Checks.BAD);
        Checks.due("SLOT 8", x.secret(8, 0), Checks.BAD);
        Checks.due("others -1", x.secret(0, -1), Checks.BAD);
        Checks.due("others 256", x.secret(0, 256), Checks.BAD);
        Checks.due("BAD ahead of STATE", x.secret(1, 256), Checks.BAD);
        Checks.due("SLOT that holds none", x.secret(1, 255), Checks.STATE);
    }

    private static void signed() {
        SaidByTimes x = Checks.speaking("thing 2 0;thing 3 or 7 1;thing 5 0;thing 11 0;");
        x.put(0, 4L * 7 * 11 * 13);
        x.put(1, 1);
        Checks.due("SIGNED", x.signed(0, -1), 1 | 2 | 8);
        Checks.due("SIGNED by none", x.signed(1, -1), 0);
        Checks.due("FALSELY: none says so", x.signed(0, 0), 0);
        Checks.due("FALSELY: all say so", x.signed(0, 15), 4);
        Checks.due("FALSELY: THINGS that there are not, too", x.signed(0, 4095), 4095 - 11);
        Checks.due("FALSELY: some", x.signed(0, 6), 4);
        Checks.due("who -2", x.signed(0, -2), Checks.BAD);
        Checks.due("who 4096", x.signed(0, 4096), Checks.BAD);
        Checks.due("SLOT -1", x.signed(-1, 0), Checks.BAD);
        Checks.due("SLOT 8", x.signed(8, 0), Checks.BAD);
        Checks.due("BAD ahead of STATE", x.signed(2, -2), Checks.BAD);
        Checks.due("SLOT that holds none", x.signed(2, 0), Checks.STATE);
        SaidByTimes none = new SaidByTimes();
        none.put(0, 30);
        Checks.due("SIGNED without a TONGUE", none.signed(0, -1), 0);
        Checks.due("FALSELY without a TONGUE", none.signed(0, 2049), 2049);
    }

    private static void plusAre(SaidByTimes x, int n, long... due) {
        Checks.due("plus " + n + ": how many", x.plus(n, -1), due.length);
        for (int i = 0; i < due.length; i++) {
            Checks.due("plus " + n + ": " + i, x.plus(n, i), due[i]);
        }
        Checks.due("plus " + n + ": not so many", x.plus(n, due.length), Checks.NONE);
        Checks.due("plus " + n + ": not so many", x.plus(n, Integer.MAX_VALUE), Checks.NONE);
    }

    private static void plus() {
        SaidByTimes x = Checks.speaking("thing 2 0;thing 3 0;");
        plusAre(x, 2, 1);
        plusAre(x, 3, 1);
        plusAre(x, 4, 1, 2);
        plusAre(x, 7, 1, 3);
        plusAre(x, 12, 3, 4, 6);
        plusAre(x, 2000);
        plusAre(x, 1536, 384, 512, 768);
        Checks.due("n 1", x.plus(1, 0), Checks.BAD);
        Checks.due("n 2001", x.plus(2001, 0), Checks.BAD);
        Checks.due("i -2", x.plus(2, -2), Checks.BAD);
        SaidByTimes none = new SaidByTimes();
        Checks.due("without a TONGUE", none.plus(2, 0), Checks.STATE);
        Checks.due("STATE ahead of BAD", none.plus(1, -2), Checks.STATE);
        SaidByTimes rules = Checks.speaking("thing 2 0;thing 3 0;thing 5 0;rule 0 2 2;pair 0 1;");
        plusAre(rules, 14, 4);
        plusAre(rules, 19, 4, 9);
        plusAre(rules, 50, 25);
    }

    private static void plusFollowsTheTongue() {
        SaidByTimes x = Checks.speaking("thing 2 0;");
        plusAre(x, 6, 2);
        x.image(0);
        Checks.tongue(x, "thing 3 0;");
        plusAre(x, 6, 3);
        Checks.tongue(x, "thing 4 0;");
        plusAre(x, 6, 3);
        x.restore(0);
        plusAre(x, 6, 2);
        x.put(0, 7);
        heardAre(x, 0, 1, 2, 4, 8);
        Checks.tongue(x, "thing 7 0;");
        x.put(0, 9);
        heardAre(x, 0, 1, 7);
    }

    private static void sameAre(SaidByTimes x, long saying, long due) {
        x.put(5, saying);
        Checks.due("same as " + saying, x.same(5), due);
    }

    private static void same() {
        SaidByTimes x = Checks.speaking("thing 2 0;thing 3 or 7 1;thing 13 or 5 0;rule 0 0 1;pair 0 1;");
        sameAre(x, 1, 1);
        sameAre(x, 32, 1);
        sameAre(x, 3, 2);
        sameAre(x, 7, 2);
        sameAre(x, 9, 3);
        sameAre(x, 21, 3);
        sameAre(x, 2 * 21 * 5, 6);
        sameAre(x, 2 * 21 * 65, 9);
        sameAre(x, 11, Checks.NONE);
        sameAre(x, 2 * 11, Checks.NONE);
        Checks.due("SLOT -1", x.same(-1), Checks.BAD);
        Checks.due("SLOT 8", x.same(8), Checks.BAD);
        Checks.due("SLOT that holds none", x.same(0), Checks.STATE);
        SaidByTimes none = new SaidByTimes();
        sameAre(none, 1, 1);
        sameAre(none, 2, Checks.NONE);
    }

    private static void sameAtTheLimit() {
        SaidByTimes x = Checks.speaking("thing 2 or 199 0;thing 5 0;");
        sameAre(x, LONGEST, 1);
        sameAre(x, 562949953421312L, 1);
        // 2 forty times is about 1.1e12: one 199 fits, two do not
        sameAre(x, 1099511627776L, 2);
        sameAre(x, 199L * 549755813888L, 2);
        SaidByTimes y = Checks.speaking("thing 5 or 2 0;");
        // 2^34 * 5^15 is too long, 2^49 is not
        sameAre(y, 562949953421312L, 1);
        sameAre(y, LONGEST / 32768 / 5 * 32, 20);
        SaidByTimes exact = Checks.speaking("thing 2 or 5 0;thing 3 0;");
        // by 15 fives and 15 twos just 10 to the 15th, the longest that may be
        sameAre(exact, 1073741824L, 16);
        SaidByTimes many = Checks.speaking("thing 2 or 3 0;thing 5 or 7 0;thing 11 or 13 0;thing 17 or 19 0;"
            + "thing 23 or 29 0;thing 31 or 37 0;thing 41 or 43 0;thing 47 or 53 0;thing 59 or 61 0;"
            + "thing 67 or 71 0;");
        sameAre(many, 2L * 5 * 11 * 17 * 23 * 31 * 41 * 47 * 59 * 67, 1024);
        sameAre(many, 3L * 7 * 13 * 19 * 29 * 37 * 43 * 53 * 61 * 71, 1024);
    }

    private static void images() {
        SaidByTimes x = Checks.speaking("thing 2 0;thing 3 or 7 1;rule 0 1 2;pair 0 1;");
        x.put(0, 14);
        x.put(3, 4);
        x.row(0, 0, 3);
        Checks.due("image(0)", x.image(0), 1);
        x.put(0, 9);
        x.put(1, 5);
        Checks.due("image(1)", x.image(1), 1);
        Checks.tongue(x, "thing 5 0;thing 11 0;thing 13 0;rule 0 0 0;rule 1 1 1;");
        x.put(7, 5);
        x.row(1, 0, 3);
        Checks.feed(x, "thing");
        Checks.due("restore(0)", x.restore(0), 1);
        Checks.due("THINGS", x.count(1), 2);
        Checks.due("rules", x.count(2), 1);
        Checks.due("pairs", x.count(3), 1);
        Checks.due("SLOTS", x.count(4), 2);
        Checks.due("ROWS stay", x.count(0), 2);
        Checks.due("the tape stays", x.count(5), 5);
        Checks.due("said(0)", x.said(0), 14);
        Checks.due("said(1)", x.said(1), Checks.NONE);
        Checks.due("said(7)", x.said(7), Checks.NONE);
        Checks.due("the second NUMBER", x.apart(0, 1), 1);
        Checks.due("the pair", x.apart(0, -2), 0);
        Checks.due("the rule", x.apart(3, -2), 1);
        x.put(0, 22);
        Checks.due("restore(1)", x.restore(1), 1);
        Checks.due("said(0)", x.said(0), 9);
        Checks.due("said(1)", x.said(1), 5);
        Checks.due("restore(0) again", x.restore(0), 1);
        Checks.due("an IMAGE is not changed", x.said(0), 14);
        x.put(0, 8);
        x.image(0);
        x.put(0, 2);
        x.restore(0);
        Checks.due("an IMAGE kept anew", x.said(0), 8);
    }

    private static void imagesRefused() {
        SaidByTimes x = new SaidByTimes();
        Checks.due("image without a TONGUE", x.image(0), Checks.STATE);
        Checks.due("image(-1)", x.image(-1), Checks.BAD);
        Checks.due("image(2)", x.image(2), Checks.BAD);
        Checks.due("restore(-1)", x.restore(-1), Checks.BAD);
        Checks.due("restore(2)", x.restore(2), Checks.BAD);
        x.put(0, 6);
        Checks.due("none was kept", x.restore(0), Checks.STATE);
        Checks.due("said(0)", x.said(0), 6);
        Checks.tongue(x, "thing 2 0;");
        x.image(1);
        Checks.due("none was kept in 0", x.restore(0), Checks.STATE);
        Checks.due("image(2)", x.image(2), Checks.BAD);
    }
}
