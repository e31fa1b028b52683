/** Promises 1 to 5, and 27 as far as ROWS go. */
public final class RowsTest {
    private static final String TEN =
        "thing 2 0;thing 3 0;thing 5 0;thing 7 0;thing 11 0;thing 13 0;";

    public static void main(String[] args) {
        newObject();
        row();
        rowIsNewEachTime();
        set();
        setKeepsTheLane();
        copy();
        copyOverItself();
        copyRefused();
        drop();
        status();
        statusOfFindings();
        Checks.end();
    }

    /** ITEM i of a ROW, which is one of the THINGS 0 to 5 of TEN: heard by its number. */
    private static long item(SaidByTimes x, int row, int i) {
        return x.say(7, row, i, 1);
    }

    private static void items(String what, SaidByTimes x, int row, long... numbers) {
        for (int i = 0; i < numbers.length; i++) {
            Checks.due(what + ", ITEM " + i, item(x, row, i), numbers[i]);
        }
        Checks.due(what + ", beyond the end", item(x, row, numbers.length), Checks.PLACE);
    }

    private static void newObject() {
        SaidByTimes x = new SaidByTimes();
        for (int what = 0; what <= 5; what++) {
            Checks.due("new: count(" + what + ")", x.count(what), 0);
        }
        for (int slot = 0; slot < 8; slot++) {
            Checks.due("new: said", x.said(slot), Checks.NONE);
            Checks.due("new: kind", x.kind(slot), Checks.STATE);
            Checks.due("new: drop", x.drop(slot), Checks.NULL);
        }
        x = new SaidByTimes();
        Checks.due("new: status", x.status(), 0);
        Checks.due("new: fault", x.fault(), 0);
        Checks.due("new: trace", x.trace(0), Checks.NONE);
        Checks.due("new: plus", x.plus(2, -1), Checks.STATE);
        Checks.due("new: image", x.image(0), Checks.STATE);
        Checks.due("new: restore", x.restore(1), Checks.STATE);
        Checks.due("new: apart", x.apart(0, 0), Checks.BAD);
    }

    private static void row() {
        SaidByTimes x = new SaidByTimes();
        Checks.due("row(0, 0, 5)", x.row(0, 0, 5), 5);
        Checks.due("row(7, 2, 40)", x.row(7, 2, 40), 40);
        Checks.due("row(3, 1, 0)", x.row(3, 1, 0), 0);
        Checks.due("count(0)", x.count(0), 3);
        Checks.due("row(-1, 0, 5)", x.row(-1, 0, 5), Checks.BAD);
        Checks.due("row(8, 0, 5)", x.row(8, 0, 5), Checks.BAD);
        Checks.due("row(1, -1, 5)", x.row(1, -1, 5), Checks.BAD);
        Checks.due("row(1, 3, 5)", x.row(1, 3, 5), Checks.BAD);
        Checks.due("row(1, 0, 41)", x.row(1, 0, 41), Checks.BAD);
        Checks.due("row(1, 0, greatest)", x.row(1, 0, Integer.MAX_VALUE), Checks.BAD);
        Checks.due("row(1, 0, -1)", x.row(1, 0, -1), Checks.SIZE);
        Checks.due("row(1, 0, least)", x.row(1, 0, Integer.MIN_VALUE), Checks.SIZE);
        Checks.due("row(8, 0, -1)", x.row(8, 0, -1), Checks.BAD);
        Checks.due("row(1, 3, -1)", x.row(1, 3, -1), Checks.BAD);
        Checks.due("count(0) after refusals", x.count(0), 3);
    }

    private static void rowIsNewEachTime() {
        SaidByTimes x = Checks.speaking(TEN);
        Checks.ints(x, 0, 3, 4, 5);
        Checks.due("row with fewer than none", x.row(0, 0, -1), Checks.SIZE);
        items("a ROW that was not replaced", x, 0, 7, 11, 13);
        Checks.due("row again", x.row(0, 2, 2), 2);
        items("a ROW that was replaced", x, 0, 2, 2);
        Checks.due("row again", x.row(0, 2, 4), 4);
        items("a ROW that is longer", x, 0, 2, 2, 2, 2);
        Checks.due("count(0)", x.count(0), 1);
    }

    private static void set() {
        SaidByTimes x = new SaidByTimes();
        x.row(0, 2, 3);
        Checks.due("set(0, 2, 9)", x.set(0, 2, 9), 9);
        Checks.due("set(-1, 0, 0)", x.set(-1, 0, 0), Checks.BAD);
        Checks.due("set(8, 0, 0)", x.set(8, 0, 0), Checks.BAD);
        Checks.due("set(1, 0, 0)", x.set(1, 0, 0), Checks.NULL);
        Checks.due("set(1, -1, 0)", x.set(1, -1, 0), Checks.NULL);
        Checks.due("set(0, -1, 0)", x.set(0, -1, 0), Checks.PLACE);
        Checks.due("set(0, 3, 0)", x.set(0, 3, 0), Checks.PLACE);
        Checks.due("set(0, greatest, 0)", x.set(0, Integer.MAX_VALUE, 0), Checks.PLACE);
        Checks.due("set(0, least, 0)", x.set(0, Integer.MIN_VALUE, 0), Checks.PLACE);
        x.row(2, 0, 40);
        Checks.due("set(2, 39, 1)", x.set(2, 39, 1), 1);
        Checks.due("set(2, 40, 1)", x.set(2, 40, 1), Checks.PLACE);
        SaidByTimes y = Checks.speaking(TEN);
        y.row(0, 2, 3);
        y.set(0, 1, 4);
        items("set changes one ITEM", y, 0, 2, 11, 2);
    }

    private static void setKeepsTheLane() {
        SaidByTimes x = new SaidByTimes();
        x.row(0, 0, 1);
        x.row(1, 1, 1);
        x.row(2, 2, 1);
        int[] values = {127, 128, 200, 255, 256, -129, 32767, 32768, 40000, 65536, -32769, 123456789};
        for (int v : values) {
            Checks.due("byte " + v, x.set(0, 0, v), (byte) v);
            Checks.due("short " + v, x.set(1, 0, v), (short) v);
            Checks.due("int " + v, x.set(2, 0, v), v);
        }
        Checks.due("byte 128", x.set(0, 0, 128), -128);
        Checks.due("short 32768", x.set(1, 0, 32768), -32768);
        SaidByTimes y = Checks.speaking(TEN);
        y.row(0, 0, 2);
        y.set(0, 0, 256 + 5);
        items("a byte of 261", y, 0, 13, 2);
    }

    private static void copy() {
        SaidByTimes x = Checks.speaking(TEN);
        Checks.ints(x, 0, 0, 1, 2, 3);
        Checks.ints(x, 1, 5, 5, 5, 5, 5);
        Checks.due("copy", x.copy(0, 1, 1, 2, 3), 3);
        items("copied to", x, 1, 13, 13, 3, 5, 7);
        items("copied from", x, 0, 2, 3, 5, 7);
        Checks.due("copy of none", x.copy(0, 4, 1, 5, 0), 0);
        items("copied none to", x, 1, 13, 13, 3, 5, 7);
    }

    private static void copyOverItself() {
        SaidByTimes x = Checks.speaking(TEN);
        Checks.ints(x, 0, 0, 1, 2, 3, 4, 5);
        Checks.due("copy upwards", x.copy(0, 0, 0, 2, 4), 4);
        items("upwards", x, 0, 2, 3, 2, 3, 5, 7);
        Checks.ints(x, 0, 0, 1, 2, 3, 4, 5);
        Checks.due("copy downwards", x.copy(0, 1, 0, 0, 5), 5);
        items("downwards", x, 0, 3, 5, 7, 11, 13, 13);
    }

    private static void copyRefused() {
        SaidByTimes x = Checks.speaking(TEN);
        Checks.ints(x, 0, 0, 1, 2, 3);
        Checks.ints(x, 1, 5, 5, 5, 5, 5);
        x.row(2, 0, 4);
        Checks.due("copy from -1", x.copy(-1, 0, 1, 0, 1), Checks.BAD);
        Checks.due("copy from 8", x.copy(8, 0, 1, 0, 1), Checks.BAD);
        Checks.due("copy to -1", x.copy(0, 0, -1, 0, 1), Checks.BAD);
        Checks.due("copy to 8", x.copy(3, 0, 8, 0, 1), Checks.BAD);
        Checks.due("copy from a missing one", x.copy(3, -1, 2, 0, 1), Checks.NULL);
        Checks.due("copy to a missing one", x.copy(2, 0, 3, -1, -1), Checks.NULL);
        Checks.due("copy to another LANE", x.copy(0, 0, 2, 0, 1), Checks.STORE);
        Checks.due("STORE ahead of PLACE", x.copy(0, -1, 2, 0, 99), Checks.STORE);
        Checks.due("none to another LANE", x.copy(0, 0, 2, 0, 0), Checks.STORE);
        int[][] nowhere = {{-1, 0, 1}, {0, -1, 1}, {0, 0, -1}, {2, 0, 3}, {0, 3, 3}, {5, 0, 0}, {0, 6, 0},
            {Integer.MAX_VALUE, 0, 1}, {0, Integer.MAX_VALUE, 1}, {0, 0, Integer.MAX_VALUE},
            {Integer.MAX_VALUE, 0, Integer.MAX_VALUE}, {1, 1, Integer.MIN_VALUE}};
        for (int[] c : nowhere) {
            Checks.due("copy(0, " + c[0] + ", 1, " + c[1] + ", " + c[2] + ")",
                x.copy(0, c[0], 1, c[1], c[2]), Checks.PLACE);
        }
        items("nothing came", x, 1, 13, 13, 13, 13, 13);
    }

    private static void drop() {
        SaidByTimes x = new SaidByTimes();
        x.row(0, 0, 5);
        x.row(7, 1, 0);
        Checks.due("drop(0)", x.drop(0), 5);
        Checks.due("count(0)", x.count(0), 1);
        Checks.due("drop(0) again", x.drop(0), Checks.NULL);
        Checks.due("drop(7)", x.drop(7), 0);
        Checks.due("drop(7) again", x.drop(7), Checks.NULL);
        Checks.due("drop(-1)", x.drop(-1), Checks.BAD);
        Checks.due("drop(8)", x.drop(8), Checks.BAD);
        Checks.due("set after drop", x.set(0, 0, 1), Checks.NULL);
        Checks.due("count(0)", x.count(0), 0);
    }

    private static void status() {
        SaidByTimes x = Checks.speaking(TEN);
        Checks.due("status at first", x.status(), 0);
        x.drop(0);
        Checks.due("after NULL", x.status(), 1);
        x.drop(8);
        Checks.due("BAD changes nothing", x.status(), 1);
        x.kind(0);
        x.count(9);
        x.put(0, 2);
        x.said(3);
        Checks.due("calls without a ROW change nothing", x.status(), 1);
        x.row(0, 0, 3);
        Checks.due("after a row that is made", x.status(), 0);
        x.row(0, 0, -1);
        Checks.due("after SIZE", x.status(), 4);
        x.set(0, 0, 1);
        Checks.due("after a set that is done", x.status(), 0);
        x.set(0, 3, 1);
        Checks.due("after PLACE", x.status(), 2);
        x.copy(0, 0, 0, 1, 2);
        Checks.due("after a copy that is done", x.status(), 0);
        x.row(1, 1, 3);
        x.copy(0, 0, 1, 0, 1);
        Checks.due("after STORE", x.status(), 5);
        x.drop(1);
        Checks.due("after a drop that is done", x.status(), 0);
    }

    private static void statusOfFindings() {
        SaidByTimes x = Checks.speaking(TEN);
        x.put(0, 2);
        x.as(0, 3);
        Checks.due("after KIND", x.status(), 3);
        x.as(1, 3);
        x.as(0, 9);
        Checks.due("STATE and BAD of as() change nothing", x.status(), 3);
        x.as(0, 2);
        Checks.due("after an as() that is done", x.status(), 0);
        x.say(0, 0, 0, 1);
        Checks.due("after say without a ROW", x.status(), 1);
        Checks.ints(x, 0, 5, 5, 5, 5, 5, 5, 5, 5, 5, 5, 5, 5, 5, 5, 99);
        x.say(0, 0, 0, 16);
        Checks.due("after say beyond the end", x.status(), 2);
        Checks.due("TOO LONG", x.say(0, 0, 0, 14), Checks.FULL);
        Checks.due("FULL changes nothing", x.status(), 2);
        Checks.due("an ITEM that is none", x.say(0, 0, 14, 1), Checks.BAD);
        Checks.due("BAD of say changes nothing", x.status(), 2);
        x.say(0, 0, 0, 2);
        Checks.due("after a say that is done", x.status(), 0);
        x.dealt(0, 6, 3, -1);
        Checks.due("after dealt beyond the end", x.status(), 2);
        Checks.due("dealt with an ITEM that is none", x.dealt(0, 2, 1, -1), Checks.BAD);
        Checks.due("BAD of dealt changes nothing", x.status(), 2);
        Checks.tongue(x, "thing 199 0;thing 197 0;thing 193 0;");
        Checks.ints(x, 0, 3, 3, 3);
        x.drop(1);
        Checks.due("dealt: NONE", x.dealt(0, 3, 1, -1), Checks.NONE);
        Checks.due("NONE is no finding", x.status(), 0);
        x.dealt(1, 2, 1, -1);
        Checks.due("after dealt without a ROW", x.status(), 1);
        x.dealt(0, 2, 1, -1);
        Checks.due("after a dealt that is done", x.status(), 0);
    }
}
