/** Counts answers that are as due and tells the ones that are not. */
final class Checks {
    static final long NONE = -1000000L;
    static final long NOT = -9000000000000000000L;
    static final long BAD = NOT - 1;
    static final long STATE = NOT - 2;
    static final long FULL = NOT - 3;
    static final long NULL = NOT - 11;
    static final long PLACE = NOT - 12;
    static final long KIND = NOT - 13;
    static final long SIZE = NOT - 14;
    static final long STORE = NOT - 15;
    static final long LONGEST = 1000000000000000L;

    private static int asDue;
    private static int wrong;
    private static String sentence = "";

    private Checks() {
    }

    /** From now on what is wrong is told with this sentence ahead. */
    static void about(String newSentence) {
        sentence = newSentence.isEmpty() ? "" : newSentence + " ";
    }

    static void due(String what, long got, long want) {
        if (got == want) {
            asDue++;
        } else {
            wrong(what + " answered " + got + ", due is " + want);
        }
    }

    static void dueText(String what, String got, String want) {
        if (got.equals(want)) {
            asDue++;
        } else {
            wrong(what + "\n  was " + got + "\n  due " + want);
        }
    }

    static void dueTrue(String what, boolean holds) {
        due(what, holds ? 1 : 0, 1);
    }

    private static void wrong(String told) {
        wrong++;
        if (wrong <= 50) {
            System.out.println(sentence + told);
        }
    }

    static int wrongSoFar() {
        return wrong;
    }

    static int lookedAtSoFar() {
        return asDue + wrong;
    }

    /** Ends the test: exit code 1 if an answer was wrong, or if nothing was looked at. */
    static void end() {
        System.out.println(asDue + " answers as due, " + wrong + " not");
        System.exit(wrong != 0 || asDue == 0 ? 1 : 0);
    }

    // ---- what many tests need

    static void feed(SaidByTimes x, String text) {
        for (int from = 0; from < text.length(); from += 8) {
            int to = Math.min(from + 8, text.length());
            long word = 0;
            for (int i = from; i < to; i++) {
                word = word << 8 | text.charAt(i);
            }
            x.feed(word, to - from);
        }
    }

    static long tongue(SaidByTimes x, String text) {
        feed(x, text);
        return x.tongue();
    }

    static SaidByTimes speaking(String text) {
        SaidByTimes x = new SaidByTimes();
        if (tongue(x, text) < 1) {
            due("a text that should be read: " + text, 0, 1);
        }
        return x;
    }

    static void ints(SaidByTimes x, int row, int... items) {
        x.row(row, 2, items.length);
        for (int i = 0; i < items.length; i++) {
            x.set(row, i, items[i]);
        }
    }

    static void trace(String what, SaidByTimes x, int... bodies) {
        for (int i = 0; i < bodies.length; i++) {
            due(what + ": trace(" + i + ")", x.trace(i), bodies[i]);
        }
        due(what + ": trace(" + bodies.length + ")", x.trace(bodies.length), NONE);
    }
}
