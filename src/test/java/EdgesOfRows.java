/** What the document says of refusals and of ROWS, a sentence at a time: its Terms, promises 1 to 5 and 27. */
final class EdgesOfRows {
    private static final String TWELVE = "thing 2 0;thing 3 0;thing 5 0;thing 7 0;thing 11 0;thing 13 0;"
        + "thing 17 0;thing 19 0;thing 23 0;thing 29 0;thing 31 0;thing 37 0;";
    private static final int LEAST = Integer.MIN_VALUE;
    private static final int GREATEST = Integer.MAX_VALUE;

    private EdgesOfRows() {
    }

    static void all() {
        terms();
        refusals();
        findings();
        changesNothing();
        changesNothingOfTwo();
        rowsOfTheTerms();
        newObject();
        row();
        rowRefused();
        set();
        setRefused();
        copy();
        copyRefused();
        drop();
        status();
    }

    private static void due(String what, long got, long want) {
        Checks.due(what, got, want);
    }

    /** The ITEMS of a ROW as NUMBERS of THINGS, and that it ends behind them. */
    private static void items(String what, SaidByTimes x, int row, long... numbers) {
        for (int i = 0; i < numbers.length; i++) {
            due(what + ", ITEM " + i, x.say(6, row, i, 1), numbers[i]);
        }
        due(what + ", beyond its end", x.say(6, row, numbers.length, 1), Checks.PLACE);
    }

    private static void terms() {
        Document.says("Terms", "Numbers go from 0 on.");
        SaidByTimes x = Checks.speaking("thing 3 0;thing 2 0;");
        due("ROW 0", x.row(0, 0, 1), 1);
        due("ITEM 0", x.set(0, 0, 0), 0);
        due("THING 0, SLOT 0", x.say(0, 0, 0, 1), 3);
        due("THING 0 stands", x.apart(0, 0), 1);
        due("the 0-th that is heard", x.heard(0, 0), 1);
        due("the 0-th pair", x.plus(5, 0), 1);
        due("IMAGE 0", x.image(0), 1);
        due("ASK 0", x.ask(0, 0), 2 * (1 + 1030));
        due("number 0 of THE TRACE", x.trace(0), 12);
        due("ROW 8", x.row(8, 0, 1), Checks.BAD);
        due("SLOT 8", x.put(8, 1), Checks.BAD);
        due("THING 2 of 2", x.apart(0, 2), Checks.BAD);
        Document.says("Terms", "All that is divided is cut towards 0.");
        x.put(1, 6);
        due("6 by 7 leaves 6", x.ask(1, 1), 1 + 60);
        x.put(1, 8);
        due("8 by 7 leaves 1", x.ask(1, 1), 1 + 10);
        x.put(1, 12);
        due("12 by 7 leaves 5", x.ask(1, 1), 1 + 50);
        Document.says("Terms", "Sets are bits.");
        x.put(1, 6);
        x.put(2, 4);
        due("THINGS 0 and 1", x.signed(1, -1), 3);
        due("THING 1", x.signed(2, -1), 2);
        due("SLOTS 0 and 2", x.secret(1, 5), 5);
    }

    private static void refusals() {
        Document.says("Terms", "Refusals are answers, the first of these that fits, but as told:");
        SaidByTimes x = Checks.speaking("thing 2 0;thing 3 0;");
        x.row(0, 0, 3);
        x.set(0, 0, 2);
        due("BAD ahead of STATE", x.apart(0, 2), Checks.BAD);
        due("BAD ahead of SIZE", x.row(8, 0, -1), Checks.BAD);
        due("BAD ahead of NULL", x.copy(1, 0, 8, 0, 1), Checks.BAD);
        due("BAD ahead of PLACE", x.say(8, 0, 3, 1), Checks.BAD);
        due("BAD ahead of KIND and STATE", x.as(0, 6), Checks.BAD);
        due("as told: PLACE ahead of an ITEM that is none", x.say(0, 0, 0, 4), Checks.PLACE);
        due("as told: an ITEM that is none", x.say(0, 0, 0, 3), Checks.BAD);
        SaidByTimes silent = new SaidByTimes();
        due("as told: STATE ahead of BAD", silent.plus(1, -2), Checks.STATE);
        Document.says("Terms", "BAD (a number is not as told; there is no such thing),");
        due("a number that is not as told", x.put(0, 0), Checks.BAD);
        due("there is no such thing", x.apart(0, 5), Checks.BAD);
        Document.says("Terms", "STATE (as told),");
        due("a SLOT that holds none", x.kind(0), Checks.STATE);
        Document.says("Terms", "FULL (as told),");
        for (int k = 0; k < 50; k++) {
            x.feed(0, 8);
        }
        due("a tape without room", x.feed(0, 1), Checks.FULL);
        Document.says("Terms", "BAD, STATE, FULL are NOT less 1, 2, 3.");
        due("BAD", x.count(6), -9000000000000000001L);
        due("STATE", x.kind(0), -9000000000000000002L);
        due("FULL", x.feed(0, 1), -9000000000000000003L);
        due("BAD is NOT less 1", x.count(6), SaidByTimes.NOT - 1);
        due("NONE is none of them", x.said(0), SaidByTimes.NONE);
    }

    private static void findings() {
        Document.says("Terms", "then FINDINGS, of several the first in time: NOT less 10 less");
        SaidByTimes x = Checks.speaking("thing 2 0;");
        x.put(0, 2);
        x.row(0, 0, 3);
        x.row(1, 1, 3);
        due("NULL ahead of STORE and PLACE", x.copy(2, -1, 0, 9, -1), -9000000000000000011L);
        due("STORE ahead of PLACE", x.copy(1, -1, 0, 9, -1), -9000000000000000015L);
        due("PLACE", x.copy(0, -1, 0, 9, -1), -9000000000000000012L);
        Document.says("Terms", "1 NULL (a ROW that is missing),");
        due("NULL", x.drop(2), -9000000000000000011L);
        due("NULL of set", x.set(2, 0, 0), -9000000000000000011L);
        due("NULL of say", x.say(0, 2, 0, 0), -9000000000000000011L);
        Document.says("Terms", "2 PLACE (no such place of a ROW),");
        due("PLACE", x.set(0, 3, 0), -9000000000000000012L);
        due("PLACE of say", x.say(0, 0, 2, 2), -9000000000000000012L);
        Document.says("Terms", "3 KIND (a SAYING that is not that),");
        due("KIND", x.as(0, 3), -9000000000000000013L);
        Document.says("Terms", "4 SIZE (fewer than none),");
        due("SIZE", x.row(2, 0, -1), -9000000000000000014L);
        due("none is no SIZE", x.row(2, 0, 0), 0);
        Document.says("Terms", "5 STORE (ROWS of two LANES);");
        due("STORE", x.copy(0, 0, 1, 0, 1), -9000000000000000015L);
        x.row(1, 0, 3);
        due("one LANE is no STORE", x.copy(0, 0, 1, 0, 1), 1);
    }

    private static void changesNothing() {
        Document.says("Terms", "What is refused, or found, changes nothing but status().");
        Ready.found("row(0, 0, -1)", x -> x.row(0, 0, -1), 4);
        Ready.bad("row(0, 3, 0)", x -> x.row(0, 3, 0));
        Ready.bad("row(0, 0, 41)", x -> x.row(0, 0, 41));
        Ready.bad("set(8, 0, 1)", x -> x.set(8, 0, 1));
        Ready.isNull("set(2, 0, 1)", x -> x.set(2, 0, 1));
        Ready.place("set(0, 6, 1)", x -> x.set(0, 6, 1));
        Ready.place("set(0, -1, 1)", x -> x.set(0, -1, 1));
        Ready.bad("copy(0, 0, 8, 0, 2)", x -> x.copy(0, 0, 8, 0, 2));
        Ready.isNull("copy(2, 0, 0, 0, 1)", x -> x.copy(2, 0, 0, 0, 1));
        Ready.isNull("copy(0, 0, 2, 0, 1)", x -> x.copy(0, 0, 2, 0, 1));
        Ready.found("copy(0, 2, 1, 0, 1)", x -> x.copy(0, 2, 1, 0, 1), 5);
        Ready.place("copy(0, 0, 0, 1, 6)", x -> x.copy(0, 0, 0, 1, 6));
        Ready.place("copy(0, 1, 0, 0, 6)", x -> x.copy(0, 1, 0, 0, 6));
        Ready.place("copy(0, 1, 0, 0, -1)", x -> x.copy(0, 1, 0, 0, -1));
        Ready.bad("drop(8)", x -> x.drop(8));
        Ready.isNull("drop(2)", x -> x.drop(2));
        Ready.bad("feed(0, 0)", x -> x.feed(0, 0));
        Ready.bad("feed(0, 9)", x -> x.feed(0, 9));
        Ready.bad("put(8, 1)", x -> x.put(8, 1));
        Ready.bad("put(0, 0)", x -> x.put(0, 0));
        Ready.bad("put(0, longest and 1)", x -> x.put(0, Checks.LONGEST + 1));
        Ready.bad("say(8, 0, 0, 1)", x -> x.say(8, 0, 0, 1));
        Ready.bad("say(0, 8, 0, 1)", x -> x.say(0, 8, 0, 1));
        Ready.bad("say(0, 0, 0, 21)", x -> x.say(0, 0, 0, 21));
        Ready.isNull("say(0, 2, 0, 0)", x -> x.say(0, 2, 0, 0));
        Ready.place("say(0, 0, 6, 1)", x -> x.say(0, 0, 6, 1));
        Ready.bad("say of an ITEM that is none", x -> x.say(0, 0, 0, 6));
        Ready.bad("said(8)", x -> x.said(8));
        Ready.bad("apart(0, 4)", x -> x.apart(0, 4));
        Ready.state("apart(1, 0)", x -> x.apart(1, 0));
    }

    private static void changesNothingOfTwo() {
        Ready.bad("both(0, 2, 3)", x -> x.both(0, 2, 3));
        Ready.state("both(0, 1, 0)", x -> x.both(0, 1, 0));
        Ready.bad("heard(0, -2)", x -> x.heard(0, -2));
        Ready.state("heard(1, 0)", x -> x.heard(1, 0));
        Ready.bad("dealt(0, 1, 1, -1)", x -> x.dealt(0, 1, 1, -1));
        Ready.isNull("dealt(2, 2, 1, -1)", x -> x.dealt(2, 2, 1, -1));
        Ready.place("dealt(1, 2, 2, -1)", x -> x.dealt(1, 2, 2, -1));
        Ready.bad("dealt of an ITEM that is none", x -> x.dealt(0, 4, 1, -1));
        Ready.bad("secret(0, 256)", x -> x.secret(0, 256));
        Ready.state("secret(1, 255)", x -> x.secret(1, 255));
        Ready.bad("signed(0, 4096)", x -> x.signed(0, 4096));
        Ready.state("signed(1, -1)", x -> x.signed(1, -1));
        Ready.bad("plus(1, 0)", x -> x.plus(1, 0));
        Ready.bad("same(8)", x -> x.same(8));
        Ready.state("same(1)", x -> x.same(1));
        Ready.bad("image(2)", x -> x.image(2));
        Ready.bad("restore(2)", x -> x.restore(2));
        Ready.state("restore(1)", x -> x.restore(1));
        Ready.bad("kind(8)", x -> x.kind(8));
        Ready.state("kind(1)", x -> x.kind(1));
        Ready.bad("as(0, 6)", x -> x.as(0, 6));
        Ready.state("as(1, 0)", x -> x.as(1, 0));
        Ready.found("as(0, 2)", x -> x.as(0, 2), 3);
        Ready.bad("ask(0, 2)", x -> x.ask(0, 2));
        Ready.state("ask(1, 0)", x -> x.ask(1, 0));
        Ready.bad("count(6)", x -> x.count(6));
        Ready.refused("trace(16)", x -> x.trace(16), Checks.NONE);
        SaidByTimes x = new SaidByTimes();
        x.put(3, 30);
        due("image(0) without a TONGUE", x.image(0), Checks.STATE);
        due("plus(2, 0) without a TONGUE", x.plus(2, 0), Checks.STATE);
        due("the SAYING stays", x.said(3), 30);
        due("none was kept", x.restore(0), Checks.STATE);
        due("the SAYING stays", x.said(3), 30);
        due("no TONGUE", x.count(1), 0);
    }

    private static void rowsOfTheTerms() {
        Document.says("1", "ROWS 0 .. 7 are missing (at first),");
        SaidByTimes x = Checks.speaking(TWELVE);
        for (int row = 0; row <= 7; row++) {
            due("drop(" + row + ")", x.drop(row), Checks.NULL);
        }
        due("drop(-1)", x.drop(-1), Checks.BAD);
        due("drop(8)", x.drop(8), Checks.BAD);
        Document.says("1", "or have a LANE (0 bytes, 1 shorts, 2 ints)");
        for (int row = 0; row <= 7; row++) {
            due("row " + row, x.row(row, row % 3, 1), 1);
        }
        due("a byte", x.set(0, 0, 70000), 112);
        due("a short", x.set(1, 0, 70000), 4464);
        due("an int", x.set(2, 0, 70000), 70000);
        due("another short", x.set(7, 0, 70000), 4464);
        due("no LANE -1", x.row(0, -1, 1), Checks.BAD);
        due("no LANE 3", x.row(0, 3, 1), Checks.BAD);
        Document.says("1", "and 0 to 40 ITEMS,");
        due("0 ITEMS", x.row(0, 0, 0), 0);
        due("no ITEM 0", x.set(0, 0, 0), Checks.PLACE);
        due("40 ITEMS", x.row(0, 2, 40), 40);
        due("ITEM 39", x.set(0, 39, 7), 7);
        due("no ITEM 40", x.set(0, 40, 7), Checks.PLACE);
        due("41 ITEMS", x.row(0, 2, 41), Checks.BAD);
        Document.says("1", "0 at first.");
        for (int lane = 0; lane <= 2; lane++) {
            x.row(3, lane, 40);
            due("the first twenty", x.say(0, 3, 0, 20), 1 << 20);
            due("the last twenty", x.say(0, 3, 20, 20), 1 << 20);
        }
    }

    private static void newObject() {
        Document.says("Promise 1", "No TONGUE,");
        SaidByTimes x = new SaidByTimes();
        due("THINGS", x.count(1), 0);
        due("rules", x.count(2), 0);
        due("pairs", x.count(3), 0);
        due("plus", x.plus(2, -1), Checks.STATE);
        due("image", x.image(0), Checks.STATE);
        due("apart of THING 0", x.apart(0, 0), Checks.BAD);
        Document.says("Promise 1", "no SAYINGS.");
        due("SLOTS", x.count(4), 0);
        for (int slot = 0; slot <= 7; slot++) {
            due("said", x.said(slot), Checks.NONE);
            due("kind", x.kind(slot), Checks.STATE);
        }
        due("no IMAGE 0", x.restore(0), Checks.STATE);
        due("no IMAGE 1", x.restore(1), Checks.STATE);
        due("no bytes on the tape", x.count(5), 0);
        due("another object has none of this one's", new SaidByTimes().count(5), 0);
    }

    private static void row() {
        Document.says("Promise 2", "A ROW of a LANE with n ITEMS,");
        SaidByTimes x = Checks.speaking(TWELVE);
        due("ROW 0", x.row(0, 0, 2), 2);
        items("of a new ROW", x, 0, 2, 2);
        due("ROW 7", x.row(7, 2, 3), 3);
        items("of a new ROW", x, 7, 2, 2, 2);
        due("with no ITEMS", x.row(1, 1, 0), 0);
        items("of none", x, 1);
        due("it is there", x.count(0), 3);
        Document.says("Promise 2", "in place of what is there: n.");
        x.set(0, 0, 5);
        x.set(0, 1, 6);
        due("a longer one", x.row(0, 2, 4), 4);
        items("of the longer one", x, 0, 2, 2, 2, 2);
        due("it is of ints", x.set(0, 0, 300), 300);
        due("a shorter one", x.row(0, 0, 1), 1);
        items("of the shorter one", x, 0, 2);
        due("it is of bytes", x.set(0, 0, 300), 44);
        due("as many ROWS", x.count(0), 3);
        due("the same anew", x.row(0, 0, 1), 1);
        items("of the same anew", x, 0, 2);
        due("the others stay", x.drop(7), 3);
    }

    private static void rowRefused() {
        Document.says("Promise 2", "BAD: ROW,");
        for (int row : new int[] {-1, 8, LEAST, GREATEST}) {
            Ready.bad("row(" + row + ", 0, 1)", x -> x.row(row, 0, 1));
        }
        Document.says("Promise 2", "LANE,");
        for (int lane : new int[] {-1, 3, LEAST, GREATEST}) {
            Ready.bad("row(0, " + lane + ", 1)", x -> x.row(0, lane, 1));
            Ready.bad("row(0, " + lane + ", -1)", x -> x.row(0, lane, -1));
        }
        Document.says("Promise 2", "n above 40;");
        Ready.bad("row(0, 1, 41)", x -> x.row(0, 1, 41));
        Ready.bad("row(2, 0, 41)", x -> x.row(2, 0, 41));
        Ready.bad("row(0, 0, greatest)", x -> x.row(0, 0, GREATEST));
        due("row(0, 0, 40)", new SaidByTimes().row(0, 0, 40), 40);
        Document.says("Promise 2", "SIZE.");
        Ready.found("row(0, 1, -1)", x -> x.row(0, 1, -1), 4);
        Ready.found("row(2, 0, -1)", x -> x.row(2, 0, -1), 4);
        Ready.found("row(0, 0, least)", x -> x.row(0, 0, LEAST), 4);
        due("row(0, 0, 0)", new SaidByTimes().row(0, 0, 0), 0);
    }

    private static void set() {
        Document.says("Promise 3", "ITEM i becomes v,");
        SaidByTimes x = Checks.speaking(TWELVE);
        x.row(0, 2, 3);
        due("the first", x.set(0, 0, 3), 3);
        due("the last", x.set(0, 2, 5), 5);
        items("that were set", x, 0, 7, 2, 13);
        Document.says("Promise 3", "its lowest bits, as many as the LANE has (read with their sign):");
        x.row(1, 0, 1);
        x.row(2, 1, 1);
        int[] values = {0, -1, 127, 128, -128, -129, 255, 256, 257, 32767, 32768, -32768, -32769, 65535, 65536, 65537,
            LEAST, GREATEST};
        int[] bytes = {0, -1, 127, -128, -128, 127, -1, 0, 1, -1, 0, 0, -1, -1, 0, 1, 0, -1};
        int[] shorts = {0, -1, 127, 128, -128, -129, 255, 256, 257, 32767, -32768, -32768, 32767, -1, 0, 1, 0, -1};
        for (int k = 0; k < values.length; k++) {
            due("a byte of " + values[k], x.set(1, 0, values[k]), bytes[k]);
            due("a short of " + values[k], x.set(2, 0, values[k]), shorts[k]);
            due("an int of " + values[k], x.set(0, 0, values[k]), values[k]);
        }
        Document.says("Promise 3", "what it is then.");
        x.set(1, 0, 261);
        x.set(2, 0, 65536 + 6);
        items("byte 261", x, 1, 13);
        items("short 65542", x, 2, 17);
        x.row(1, 0, 2);
        x.set(1, 1, 256);
        items("byte 256", x, 1, 2, 2);
    }

    private static void setRefused() {
        Document.says("Promise 3", "BAD: ROW;");
        for (int row : new int[] {-1, 8, LEAST, GREATEST}) {
            Ready.bad("set(" + row + ", 0, 1)", x -> x.set(row, 0, 1));
        }
        Document.says("Promise 3", "NULL;");
        Ready.isNull("set(2, 0, 1)", x -> x.set(2, 0, 1));
        Ready.isNull("set(7, -1, 1)", x -> x.set(7, -1, 1));
        SaidByTimes x = Ready.object();
        x.drop(0);
        due("of a ROW that was dropped", x.set(0, 0, 1), Checks.NULL);
        Document.says("Promise 3", "PLACE.");
        for (int i : new int[] {-1, 6, 40, LEAST, GREATEST}) {
            Ready.place("set(0, " + i + ", 1)", y -> y.set(0, i, 1));
        }
        Ready.place("of a ROW with no ITEMS", y -> y.set(5, 0, 1));
        due("the last", Ready.object().set(0, 5, 1), 1);
    }

    private static void copy() {
        Document.says("Promise 4", "n ITEMS of a from i on come to b from j on,");
        SaidByTimes x = Checks.speaking(TWELVE);
        Checks.ints(x, 0, 1, 2, 3, 4);
        Checks.ints(x, 1, 5, 5, 5, 5, 5);
        due("some", x.copy(0, 1, 1, 2, 2), 2);
        items("some", x, 1, 13, 13, 5, 7, 13);
        items("where they come from", x, 0, 3, 5, 7, 11);
        due("up to both ends", x.copy(0, 2, 1, 3, 2), 2);
        items("up to both ends", x, 1, 13, 13, 5, 7, 11);
        due("a whole ROW", x.copy(0, 0, 1, 0, 4), 4);
        items("a whole ROW", x, 1, 3, 5, 7, 11, 11);
        due("none, from the ends", x.copy(0, 4, 1, 5, 0), 0);
        due("none, from the beginnings", x.copy(0, 0, 1, 0, 0), 0);
        items("none", x, 1, 3, 5, 7, 11, 11);
        x.row(2, 0, 2);
        x.set(2, 0, 300);
        x.row(3, 0, 1);
        due("a byte", x.copy(2, 0, 3, 0, 1), 1);
        due("it is a byte still", x.set(3, 0, 300), 44);
        x.row(4, 2, 0);
        due("none of a ROW with no ITEMS", x.copy(4, 0, 0, 4, 0), 0);
        Document.says("Promise 4", "as they were ahead: n.");
        Checks.ints(x, 0, 1, 2, 3, 4, 5);
        due("upwards", x.copy(0, 0, 0, 1, 4), 4);
        items("upwards", x, 0, 3, 3, 5, 7, 11);
        Checks.ints(x, 0, 1, 2, 3, 4, 5);
        due("downwards", x.copy(0, 1, 0, 0, 4), 4);
        items("downwards", x, 0, 5, 7, 11, 13, 13);
        due("to where they are", x.copy(0, 0, 0, 0, 5), 5);
        items("to where they are", x, 0, 5, 7, 11, 13, 13);
    }

    private static void copyRefused() {
        Document.says("Promise 4", "BAD: ROWS;");
        for (int row : new int[] {-1, 8, LEAST, GREATEST}) {
            Ready.bad("copy(" + row + ", 0, 0, 0, 1)", x -> x.copy(row, 0, 0, 0, 1));
            Ready.bad("copy(0, 0, " + row + ", 0, 1)", x -> x.copy(0, 0, row, 0, 1));
            Ready.bad("copy(2, -1, " + row + ", 0, 1)", x -> x.copy(2, -1, row, 0, 1));
        }
        Document.says("Promise 4", "NULL;");
        Ready.isNull("from a missing one", x -> x.copy(2, 0, 0, 0, 1));
        Ready.isNull("to a missing one", x -> x.copy(0, 0, 2, 0, 1));
        Ready.isNull("none of a missing one", x -> x.copy(2, 0, 2, 0, 0));
        Ready.isNull("beyond the end of a missing one", x -> x.copy(0, 99, 2, -1, -1));
        Document.says("Promise 4", "STORE;");
        Ready.found("bytes to ints", x -> x.copy(1, 0, 0, 0, 1), 5);
        Ready.found("ints to shorts", x -> x.copy(0, 0, 3, 0, 1), 5);
        Ready.found("shorts to bytes", x -> x.copy(3, 0, 1, 0, 1), 5);
        Ready.found("none of another LANE", x -> x.copy(0, 0, 1, 0, 0), 5);
        Ready.found("beyond the end of another LANE", x -> x.copy(0, -1, 1, 99, -1), 5);
        Document.says("Promise 4", "PLACE (i, j, n below 0,");
        for (int below : new int[] {-1, LEAST}) {
            Ready.place("i " + below, x -> x.copy(0, below, 0, 0, 1));
            Ready.place("j " + below, x -> x.copy(0, 0, 0, below, 1));
            Ready.place("n " + below, x -> x.copy(0, 1, 0, 0, below));
            Ready.place("none from i " + below, x -> x.copy(0, below, 0, 0, 0));
            Ready.place("none to j " + below, x -> x.copy(0, 0, 0, below, 0));
        }
        Document.says("Promise 4", "or beyond an end).");
        Ready.place("one more than there are", x -> x.copy(0, 0, 0, 0, 7));
        Ready.place("beyond the end of a", x -> x.copy(0, 4, 0, 0, 3));
        Ready.place("beyond the end of b", x -> x.copy(0, 0, 0, 4, 3));
        Ready.place("none from beyond the end of a", x -> x.copy(0, 7, 0, 0, 0));
        Ready.place("none to beyond the end of b", x -> x.copy(0, 0, 0, 7, 0));
        Ready.place("i and n wrap around", x -> x.copy(0, GREATEST, 0, 0, GREATEST));
        Ready.place("i and 1 wrap around", x -> x.copy(0, GREATEST, 0, 0, 1));
        Ready.place("j and n wrap around", x -> x.copy(0, 1, 0, GREATEST, 2));
        Ready.place("the greatest n", x -> x.copy(0, 0, 0, 0, GREATEST));
        Ready.place("one of a ROW with no ITEMS", x -> x.copy(5, 0, 0, 0, 1));
        Ready.place("one to a ROW with no ITEMS", x -> x.copy(0, 0, 5, 0, 1));
    }

    private static void drop() {
        Document.says("Promise 5", "A ROW is missing from now on:");
        SaidByTimes x = Checks.speaking(TWELVE);
        x.row(0, 0, 5);
        x.row(7, 1, 40);
        x.row(3, 2, 0);
        x.drop(0);
        due("it is missing", x.set(0, 0, 0), Checks.NULL);
        due("the others stay", x.count(0), 2);
        due("the others stay", x.set(7, 39, 1), 1);
        due("a new one in its place", x.row(0, 0, 1), 1);
        items("of a new one in its place", x, 0, 2);
        Document.says("Promise 5", "how many ITEMS it had.");
        due("one", x.drop(0), 1);
        due("40", x.drop(7), 40);
        due("none", x.drop(3), 0);
        due("none is there", x.count(0), 0);
        Document.says("Promise 5", "BAD;");
        for (int row : new int[] {-1, 8, LEAST, GREATEST}) {
            Ready.bad("drop(" + row + ")", y -> y.drop(row));
        }
        Document.says("Promise 5", "NULL.");
        Ready.isNull("drop(2)", y -> y.drop(2));
        due("what was dropped", x.drop(3), Checks.NULL);
    }

    private static void status() {
        Document.says("Promise 27", "Of the latest call with a ROW, or as(),");
        SaidByTimes x = Ready.object();
        statusAfter(x, "row", x.row(6, 0, 3), 0);
        statusAfter(x, "set", x.set(6, 3, 0), 2);
        statusAfter(x, "set", x.set(6, 2, 0), 0);
        statusAfter(x, "copy", x.copy(6, 0, 0, 0, 1), 5);
        statusAfter(x, "copy", x.copy(6, 0, 6, 1, 1), 0);
        statusAfter(x, "say", x.say(0, 6, 0, 4), 2);
        statusAfter(x, "say", x.say(0, 6, 0, 1), 0);
        statusAfter(x, "dealt", x.dealt(6, 2, 2, -1), 2);
        statusAfter(x, "dealt", x.dealt(6, 2, 1, -1), 0);
        statusAfter(x, "as", x.as(0, 5), 3);
        statusAfter(x, "as", x.as(0, 2), 0);
        statusAfter(x, "drop", x.drop(4), 1);
        statusAfter(x, "drop", x.drop(6), 0);
        x.row(2, 0, -1);
        otherCallsLeave(x, 4);
        x.set(0, 0, 0);
        otherCallsLeave(x, 0);
        Document.says("Promise 27", "that was not BAD, STATE, FULL:");
        Checks.tongue(x, "thing 199 0;thing 197 0;");
        Checks.ints(x, 0, 0, 0, 0, 0, 0, 0, 0, 0, 2);
        x.set(4, 0, 0);
        due("ahead of it", x.status(), 1);
        due("FULL of say", x.say(0, 0, 0, 8), Checks.FULL);
        due("BAD of say", x.say(0, 0, 8, 1), Checks.BAD);
        due("BAD of a SLOT", x.say(8, 0, 0, 1), Checks.BAD);
        due("BAD of row", x.row(0, 0, 41), Checks.BAD);
        due("BAD of set", x.set(8, 0, 0), Checks.BAD);
        due("BAD of copy", x.copy(0, 0, 8, 0, 0), Checks.BAD);
        due("BAD of drop", x.drop(-1), Checks.BAD);
        due("BAD of dealt", x.dealt(0, 3, 1, -1), Checks.BAD);
        x.set(0, 1, 4);
        x.set(4, 0, 0);
        due("BAD of an ITEM of dealt", x.dealt(0, 2, 1, -1), Checks.BAD);
        due("STATE of as", x.as(5, 0), Checks.STATE);
        due("BAD of as", x.as(0, 6), Checks.BAD);
        due("it is as ahead", x.status(), 1);
        statusOfFindings();
    }

    private static void statusAfter(SaidByTimes x, String call, long answer, int due) {
        due("after " + call + ", which answered " + answer, x.status(), due);
    }

    /** Calls that have no ROW, and are not as(), leave status() as it is. */
    private static void otherCallsLeave(SaidByTimes x, int status) {
        x.put(0, 12);
        x.said(0);
        x.apart(0, 0);
        x.both(0, 0, 0);
        x.heard(0, 0);
        x.secret(0, 0);
        x.signed(0, 0);
        x.plus(5, 0);
        x.same(0);
        x.image(1);
        x.restore(1);
        x.kind(0);
        x.ask(0, 0);
        x.trace(0);
        x.count(0);
        x.feed(0, 1);
        x.tongue();
        x.fault();
        Checks.tongue(x, Ready.TONGUE);
        due("after calls without a ROW", x.status(), status);
    }

    private static void statusOfFindings() {
        Document.says("Promise 27", "the number of its FINDING;");
        SaidByTimes x = Ready.object();
        statusAfter(x, "NULL", x.drop(2), 1);
        statusAfter(x, "PLACE", x.set(0, 6, 1), 2);
        statusAfter(x, "KIND", x.as(0, 2), 3);
        statusAfter(x, "SIZE", x.row(0, 0, -1), 4);
        statusAfter(x, "STORE", x.copy(0, 0, 1, 0, 1), 5);
        statusAfter(x, "NULL of set", x.set(2, 0, 1), 1);
        statusAfter(x, "PLACE of copy", x.copy(0, 0, 0, 0, 7), 2);
        statusAfter(x, "NULL of copy", x.copy(0, 0, 2, 0, 1), 1);
        statusAfter(x, "PLACE of say", x.say(0, 0, 6, 1), 2);
        statusAfter(x, "NULL of say", x.say(0, 2, 0, 1), 1);
        statusAfter(x, "PLACE of dealt", x.dealt(1, 2, 2, 0), 2);
        statusAfter(x, "NULL of dealt", x.dealt(2, 2, 2, 0), 1);
        Document.says("Promise 27", "0: it had none,");
        statusAfter(x, "a ROW that is made", x.row(0, 0, 0), 0);
        x.drop(2);
        Checks.tongue(x, "thing 199 0;thing 197 0;thing 193 0;");
        Checks.ints(x, 0, 3, 3, 3);
        x.drop(2);
        due("ahead of NONE", x.status(), 1);
        due("NONE of dealt", x.dealt(0, 3, 1, -1), Checks.NONE);
        due("NONE is no FINDING", x.status(), 0);
        Document.says("Promise 27", "or there was none.");
        due("of a new object", new SaidByTimes().status(), 0);
        SaidByTimes y = new SaidByTimes();
        y.row(8, 0, 0);
        y.as(0, 0);
        due("when each was refused", y.status(), 0);
    }
}
