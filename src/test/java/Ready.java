/**
 * An object that has something of everything, and all that can be seen of such a one: so that
 * a call that must change nothing can be looked at from every side.
 */
final class Ready {
    interface Call {
        long on(SaidByTimes x);
    }

    static final String TONGUE = "thing 2 0;thing 3 or 7 1;thing 5 0;thing 11 2;rule 2 0 3;pair 0 2;";
    private static final String KEPT = "thing 13 0;thing 17 or 19 1;rule 1 0 1;pair 1 0;";
    /** Of the latest call with a ROW of such an object: SIZE. */
    private static final int STATUS = 4;
    private static final String ALL = all(object());

    private Ready() {
    }

    static SaidByTimes object() {
        SaidByTimes x = withoutTape();
        Checks.feed(x, "thing 23 0;");
        return x;
    }

    static SaidByTimes withoutTape() {
        SaidByTimes x = Checks.speaking(KEPT);
        x.put(0, 13);
        x.put(4, 17 * 19);
        x.image(0);
        Checks.tongue(x, TONGUE);
        x.put(0, 36);
        x.put(2, 10);
        x.put(5, 26);
        x.put(7, 1);
        Checks.ints(x, 0, 0, 1, 2, 21, 3, 12);
        x.row(1, 0, 3);
        x.set(1, 0, 3);
        x.row(3, 1, 2);
        x.set(3, 1, 2);
        x.row(5, 2, 0);
        x.ask(0, 0);
        Checks.tongue(x, "thing 4");
        x.row(2, 0, -1);
        return x;
    }

    /** All that can be seen; the object is used up by it. */
    static String all(SaidByTimes x) {
        StringBuilder b = new StringBuilder("count");
        for (int what = 0; what <= 5; what++) {
            b.append(' ').append(x.count(what));
        }
        b.append(" fault ").append(x.fault()).append(" trace");
        for (int i = 0; i <= 16; i++) {
            b.append(' ').append(x.trace(i));
        }
        speech(b, x);
        rows(b, x);
        b.append(" tape ").append(x.tongue()).append(' ').append(x.apart(0, 1)).append(' ').append(x.put(0, 23))
            .append(' ').append(x.apart(0, 0)).append(' ').append(x.fault());
        for (int k = 0; k < 2; k++) {
            b.append(" image ").append(x.restore(k));
            speech(b, x);
        }
        return b.toString();
    }

    private static void speech(StringBuilder b, SaidByTimes x) {
        b.append(" tongue ").append(x.count(1)).append(x.count(2)).append(x.count(3)).append(" slots");
        for (int slot = 0; slot < 8; slot++) {
            long said = x.said(slot);
            b.append(' ').append(said);
            for (int thing = -2; said >= 1 && thing < x.count(1); thing++) {
                b.append(thing == -2 ? ':' : ',').append(x.apart(slot, thing));
            }
        }
    }

    private static void rows(StringBuilder b, SaidByTimes x) {
        for (int row = 0; row < 8; row++) {
            b.append(" row");
            long read = 0;
            for (int i = 0; i <= 40 && read > Checks.NOT - 11; i++) {
                read = x.say(6, row, i, 1);
                b.append(' ').append(read);
            }
            b.append(" lane ").append(x.set(row, 0, 99999));
        }
    }

    /** A call that is BAD, STATE or FULL: it changes nothing. */
    static void refused(String what, Call call, long due) {
        SaidByTimes x = object();
        Checks.due(what, call.on(x), due);
        Checks.due(what + ", then status()", x.status(), STATUS);
        Checks.dueText(what + " changes", all(x), ALL);
    }

    static void bad(String what, Call call) {
        refused(what, call, Checks.BAD);
    }

    static void state(String what, Call call) {
        refused(what, call, Checks.STATE);
    }

    static void full(String what, Call call) {
        refused(what, call, Checks.FULL);
    }

    /** A call that has a FINDING: it changes nothing but status(). */
    static void found(String what, Call call, int finding) {
        SaidByTimes x = object();
        x.set(0, 0, 0);
        Checks.due("status() ahead of " + what, x.status(), 0);
        Checks.due(what, call.on(x), Checks.NOT - 10 - finding);
        Checks.due(what + ", then status()", x.status(), finding);
        Checks.dueText(what + " changes", all(x), ALL);
    }

    static void isNull(String what, Call call) {
        found(what, call, 1);
    }

    static void place(String what, Call call) {
        found(what, call, 2);
    }
}
