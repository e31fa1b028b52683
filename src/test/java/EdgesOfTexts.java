import java.math.BigInteger;

/** What the document says of texts and faults, a sentence at a time: block 1 of its Terms, promises 6 to 8. */
final class EdgesOfTexts {
    private static final String TWO = "thing 2 0;thing 3 0;";
    private static final String TWELVE = "thing 2 0;thing 3 0;thing 5 0;thing 7 0;thing 11 0;thing 13 0;"
        + "thing 17 0;thing 19 0;thing 23 0;thing 29 0;thing 31 0;thing 37 0;";
    private static final String EIGHT_PAIRS = "pair 0 1;pair 1 0;pair 0 1;pair 1 0;pair 0 1;pair 1 0;pair 0 1;pair 1 0;";

    private EdgesOfTexts() {
    }

    static void all() {
        tape();
        tokens();
        blanks();
        form();
        numbersOfThings();
        sortsAndRoom();
        rules();
        pairs();
        takesThePlace();
        faultsFirst();
        faultsOfForm();
        faultsOfTheRest();
        feed();
        feedRefused();
        tongue();
        fault();
    }

    private static void due(String what, long got, long want) {
        Checks.due(what, got, want);
    }

    private static void read(String text, int things, int rules, int pairs) {
        SaidByTimes x = new SaidByTimes();
        String shown = "<" + text + ">";
        due(shown, Checks.tongue(x, text), things);
        due(shown + " THINGS", x.count(1), things);
        due(shown + " rules", x.count(2), rules);
        due(shown + " pairs", x.count(3), pairs);
        due(shown + " fault()", x.fault(), 0);
    }

    private static void faulty(String text, int number, int place) {
        SaidByTimes x = new SaidByTimes();
        String shown = "<" + text + ">";
        due(shown, Checks.tongue(x, text), Checks.NOT - 100 - place);
        due(shown + " fault()", x.fault(), number);
        due(shown + " THINGS", x.count(1), 0);
    }

    private static void tape() {
        Document.says("1", "TEXTS: THE TAPE has at most 400 bytes;");
        SaidByTimes x = new SaidByTimes();
        String text = TWELVE + " ".repeat(400 - TWELVE.length());
        Checks.feed(x, text);
        due("400 bytes", x.count(5), 400);
        due("none more", x.feed(' ', 1), Checks.FULL);
        due("400 bytes are read", x.tongue(), 12);
        Checks.feed(x, " ".repeat(390) + "thing 2 0;");
        due("up to the last of them", x.tongue(), 1);
        Checks.feed(x, " ".repeat(391) + "thing 2 0");
        due("up to their end", x.tongue(), Checks.NOT - 500);
        due("it can't end there", x.fault(), 1);
    }

    private static void tokens() {
        Document.says("1", "TOKENS: NAMES (letters a to z),");
        read("thing 2 0;", 1, 0, 0);
        faulty("thingz 2 0;", 1, 0);
        faulty("athing 2 0;", 1, 0);
        faulty("Thing 2 0;", 1, 0);
        faulty("thinG 2 0;", 1, 0);
        faulty("thing`2 0;", 1, 5);
        faulty("thingA", 1, 5);
        faulty("thing 2 orZ 3 0;", 1, 10);
        faulty("thing 2 0;thingA", 1, 15);
        faulty("thing{2 0;", 1, 5);
        faulty("thing_2 0;", 1, 5);
        faulty("thing 2 or" + (char) 225 + "3 0;", 1, 10);
        Document.says("1", "NUMBERS (figures, 3 at most),");
        read("thing 199 4;", 1, 0, 0);
        read("thing 002 000;", 1, 0, 0);
        faulty("thing 0002 0;", 1, 6);
        faulty("thing /2 0;", 1, 6);
        faulty("thing 2: 0;", 1, 7);
        faulty("thing 2.0;", 1, 7);
        faulty("thing -2 0;", 1, 6);
        faulty("thing +2 0;", 1, 6);
        Document.says("1", "SIGNS ;");
        read("thing 2 0;thing 3 0;", 2, 0, 0);
        faulty("thing 2 0,", 1, 9);
        faulty("thing 2 0:", 1, 9);
        faulty("thing 2 0<", 1, 9);
        faulty("thing 2 0;;", 1, 10);
        faulty(";thing 2 0;", 1, 0);
    }

    private static void blanks() {
        Document.says("1", "bytes 32 and 10 ahead of, between, behind these, as many as wanted");
        read("   \n\n thing \n 2 \n\n or    3 0 \n ; \n\n  ", 1, 0, 0);
        read("thing\n2\n0\n;\nthing\n3\n0;\nrule\n0\n0\n9\n;\npair\n0\n1\n;\n", 2, 1, 1);
        for (int b = 0; b < 256; b++) {
            if (b != 32 && b != 10 && b != ';') {
                faulty("thing 2 0;" + (char) b, 1, 10);
                faulty("thing 2 0" + (char) b + (char) b + (char) b + (char) b + ";", 1, b >= '0' && b <= '9' ? 8 : 9);
            }
        }
        Document.says("1", "(none is needed where one ends without).");
        read("thing2or3 0;thing5or7 1;rule0 1 2;rule1 0 0;pair0 1;", 2, 2, 1);
        read("thing 2or 3 0;", 1, 0, 0);
        faulty("thing 20;", 2, 6);
        faulty("thing 2 or3 0;thingor", 1, 14);
        faulty("thing 2 0;rule 01 2;", 1, 19);
    }

    private static void form() {
        Document.says("1", "tongue: thing { thing } { rule } { pair }.");
        read("thing 2 0;", 1, 0, 0);
        read("thing 2 0;rule 0 0 1;", 1, 1, 0);
        read("thing 2 0;thing 3 0;pair 0 1;", 2, 0, 1);
        read("thing 2 0;thing 3 0;rule 0 0 1;rule 1 0 1;pair 0 1;pair 1 0;", 2, 2, 2);
        faulty("", 1, 0);
        faulty("rule 0 0 1;", 1, 0);
        faulty("pair 0 1;", 1, 0);
        faulty("thing 2 0;rule 0 0 1;thing 3 0;", 1, 21);
        faulty("thing 2 0;thing 3 0;pair 0 1;thing 5 0;", 1, 29);
        faulty("thing 2 0;thing 3 0;pair 0 1;rule 0 0 1;", 1, 29);
        Document.says("1", "thing: 'thing' NUMBER [ 'or' NUMBER ] SORT ';'");
        read("thing 2 0;thing 3 or 5 1;", 2, 0, 0);
        SaidByTimes x = Checks.speaking("thing 2 0;thing 3 or 5 1;");
        x.put(0, 2 * 3 * 25 * 7);
        due("THING 0 by its NUMBER", x.apart(0, 0), 1);
        due("THING 1 by both", x.apart(0, 1), 3);
        due("the REST", x.apart(0, -1), 7);
        faulty("thing 2;", 1, 7);
        faulty("thing 0;", 2, 6);
        faulty("thing or 3 0;", 1, 6);
        faulty("thing 2 or 0;", 2, 11);
        faulty("thing 2 or 3;", 1, 12);
        faulty("thing 2 or 3 or 5 0;", 1, 13);
        faulty("thing 2 0 or 3;", 1, 10);
        faulty("thing 2 0 0;", 1, 10);
    }

    private static void numbersOfThings() {
        Document.says("1", "(each 2 to 199,");
        for (int n : new int[] {0, 1, 200, 211, 223, 997, 999}) {
            faulty("thing " + n + " 0;", 2, 6);
            faulty("thing 3 or " + n + " 0;", 2, 11);
        }
        read("thing 2 or 199 0;", 1, 0, 0);
        read("thing 199 or 2 0;", 1, 0, 0);
        Document.says("1", "one that nothing but 1 and itself goes into,");
        for (int n = 2; n <= 199; n++) {
            if (BigInteger.valueOf(n).isProbablePrime(40)) {
                read("thing " + n + " 0;", 1, 0, 0);
                read("thing " + (n == 2 ? 3 : 2) + " or " + n + " 0;", 1, 0, 0);
            } else {
                faulty("thing " + n + " 0;", 2, 6);
                faulty("thing 2 or " + n + " 0;", 2, 11);
            }
        }
        Document.says("1", "told nowhere ahead,");
        faulty("thing 2 0;thing 2 0;", 2, 16);
        faulty("thing 2 0;thing 3 0;thing 2 1;", 2, 26);
        faulty("thing 2 or 3 0;thing 3 0;", 2, 21);
        faulty("thing 2 0;thing 3 or 2 0;", 2, 21);
        faulty("thing 2 or 3 0;thing 5 or 3 0;", 2, 26);
        faulty("thing 2 0;thing 002 0;", 2, 16);
        SaidByTimes x = Checks.speaking("thing 2 or 3 0;");
        due("what another TONGUE told is free", Checks.tongue(x, "thing 3 or 2 0;"), 1);
        due("what a FAULT cut off is free", Checks.tongue(x, "thing 5 or 7 0"), Checks.NOT - 114);
        due("what a FAULT cut off is free", Checks.tongue(x, "thing 7 or 5 0;"), 1);
        Document.says("1", "the second one unlike the first;");
        faulty("thing 2 or 2 0;", 2, 11);
        faulty("thing 199 or 199 0;", 2, 13);
        faulty("thing 3 0;thing 2 or 002 0;", 2, 21);
    }

    private static void sortsAndRoom() {
        Document.says("1", "0 to 4;");
        for (int sort = 0; sort <= 4; sort++) {
            read("thing 2 " + sort + ";", 1, 0, 0);
        }
        faulty("thing 2 5;", 2, 8);
        faulty("thing 2 999;", 2, 8);
        faulty("thing 2 or 3 5;", 2, 13);
        Document.says("1", "THINGS 0 .. 11, 12 at most).");
        read(TWELVE, 12, 0, 0);
        read(TWELVE + "pair 11 10;pair 0 11;", 12, 0, 2);
        faulty(TWELVE + "thing 41 0;", 3, TWELVE.length());
        faulty(TWELVE + "pair 11 12;", 2, TWELVE.length() + 8);
        SaidByTimes x = Checks.speaking(TWELVE);
        x.put(0, 37);
        due("THING 11", x.apart(0, 11), 1);
        due("no THING 12", x.apart(0, 12), Checks.BAD);
    }

    private static void rules() {
        Document.says("1", "rule: 'rule' SORT LOW HIGH ';'");
        read("thing 2 0;rule 1 2 3;", 1, 1, 0);
        faulty("thing 2 0;rule;", 1, 14);
        faulty("thing 2 0;rule 1;", 1, 16);
        faulty("thing 2 0;rule 1 2;", 1, 18);
        faulty("thing 2 0;rule 1 2 3", 1, 20);
        faulty("thing 2 0;rule 1 2 3 4;", 1, 21);
        SaidByTimes x = Checks.speaking("thing 2 0;thing 3 1;rule 1 2 3;");
        x.put(0, 3);
        due("below LOW", x.apart(0, -2), 0);
        x.put(0, 9);
        due("LOW", x.apart(0, -2), 1);
        x.put(0, 81);
        due("above HIGH", x.apart(0, -2), 0);
        Document.says("1", "(0 to 4;");
        for (int sort = 0; sort <= 4; sort++) {
            read("thing 2 0;rule " + sort + " 0 0;", 1, 1, 0);
        }
        faulty("thing 2 0;rule 5 0 0;", 2, 15);
        faulty("thing 2 0;rule 999 0 0;", 2, 15);
        Document.says("1", "0 to 9, HIGH no less;");
        read("thing 2 0;rule 0 0 0;", 1, 1, 0);
        read("thing 2 0;rule 0 0 9;", 1, 1, 0);
        read("thing 2 0;rule 0 9 9;", 1, 1, 0);
        faulty("thing 2 0;rule 0 10 10;", 2, 17);
        faulty("thing 2 0;rule 0 9 10;", 2, 19);
        faulty("thing 2 0;rule 0 1 0;", 2, 19);
        faulty("thing 2 0;rule 0 9 8;", 2, 19);
        Document.says("1", "each SORT once).");
        read("thing 2 0;rule 0 0 1;rule 4 0 1;rule 2 0 1;rule 3 0 1;rule 1 0 1;", 1, 5, 0);
        faulty("thing 2 0;rule 0 0 1;rule 0 0 1;", 2, 26);
        faulty("thing 2 0;rule 0 0 1;rule 1 0 1;rule 000 0 1;", 2, 37);
        faulty("thing 2 0;rule 0 0 1;rule 4 0 1;rule 2 0 1;rule 3 0 1;rule 1 0 1;rule 1 0 1;", 2, 70);
        read("thing 2 0;rule 4 0 1;rule 3 0 1;rule 2 0 1;rule 1 0 1;rule 0 0 1;", 1, 5, 0);
        due("the SORT of a rule that another TONGUE had", Checks.tongue(x, "thing 2 0;rule 1 0 0;"), 1);
        Checks.tongue(x, "thing 2 0;rule 4 0 1;rule 3 0 1;rule 2 0 1;rule 1 0 1;rule 0 0 1;");
        due("SORTS of rules that another TONGUE had", Checks.tongue(x, "thing 2 0;rule 1 0 0;rule 0 0 0;"), 1);
        due("so many rules", x.count(2), 2);
    }

    private static void pairs() {
        Document.says("1", "pair: 'pair' THING THING ';'");
        read(TWO + "pair 0 1;", 2, 0, 1);
        read(TWO + "pair 1 0;", 2, 0, 1);
        faulty(TWO + "pair;", 1, 24);
        faulty(TWO + "pair 0;", 1, 26);
        faulty(TWO + "pair 0 1", 1, 28);
        faulty(TWO + "pair 0 1 0;", 1, 29);
        faulty(TWO + "pair 0 2;", 2, 27);
        faulty(TWO + "pair 2 0;", 2, 25);
        Document.says("1", "(unlike;");
        faulty(TWO + "pair 0 0;", 2, 27);
        faulty(TWO + "pair 1 1;", 2, 27);
        faulty(TWO + "pair 1 001;", 2, 27);
        Document.says("1", "they may not stand together;");
        SaidByTimes x = Checks.speaking(TWO + "thing 5 or 7 0;pair 2 0;");
        x.put(0, 2 * 5);
        due("2 and 5", x.apart(0, -2), 0);
        x.put(0, 2 * 7);
        due("2 and 7", x.apart(0, -2), 0);
        x.put(0, 4 * 3);
        due("2 and 3", x.apart(0, -2), 1);
        x.put(0, 5 * 7 * 3);
        due("5 and 7", x.apart(0, -2), 1);
        Document.says("1", "8 at most).");
        read(TWO + EIGHT_PAIRS, 2, 0, 8);
        faulty(TWO + EIGHT_PAIRS + "pair 0 1;", 3, TWO.length() + EIGHT_PAIRS.length());
    }

    private static void takesThePlace() {
        Document.says("1", "A TONGUE that is read stands in place of the one before (none at first):");
        SaidByTimes x = new SaidByTimes();
        due("none at first", x.plus(2, -1), Checks.STATE);
        Checks.tongue(x, "thing 2 or 3 0;thing 5 0;rule 0 1 1;rule 1 0 0;pair 0 1;");
        due("one", x.count(1) * 100 + x.count(2) * 10 + x.count(3), 221);
        Checks.tongue(x, "thing 7 4;");
        due("another", x.count(1) * 100 + x.count(2) * 10 + x.count(3), 100);
        x.put(0, 2 * 3 * 5);
        due("the THINGS before are none", x.apart(0, -1), 30);
        due("THING 1 is none", x.apart(0, 1), Checks.BAD);
        x.put(0, 49);
        due("the rules before are none", x.apart(0, -2), 1);
        Checks.tongue(x, "thing 2 or 3 0;thing 5 or 13 0;thing 11 or 17 0;");
        Checks.tongue(x, "thing 7 4;");
        Checks.ints(x, 0, 1, 20, 21, 2, 22);
        for (int i = 0; i < 5; i++) {
            due("what stood for a THING before is none: ITEM " + i, x.say(0, 0, i, 1), Checks.BAD);
        }
        x.put(0, 3 * 7 * 13 * 17);
        due("the second NUMBERS before are none", x.apart(0, -1), 3 * 13 * 17);
        due("the second NUMBERS before are no THINGS", x.signed(0, -1), 1);
        x.drop(0);
        Document.says("1", "no SAYINGS are kept;");
        for (int slot = 0; slot <= 7; slot++) {
            x.put(slot, 7);
        }
        Checks.tongue(x, "thing 7 4;");
        due("none", x.count(4), 0);
        for (int slot = 0; slot <= 7; slot++) {
            due("said(" + slot + ")", x.said(slot), Checks.NONE);
        }
        Document.says("1", "IMAGES and ROWS stay.");
        x.put(2, 7);
        x.image(0);
        x.put(2, 14);
        x.image(1);
        Checks.ints(x, 4, 0, 0, 0);
        Checks.tongue(x, "thing 11 or 13 0;thing 17 0;");
        due("the ROW", x.say(0, 4, 0, 3), 1331);
        due("IMAGE 0", x.restore(0), 1);
        due("its SAYING", x.said(2), 7);
        due("its TONGUE", x.apart(2, 0), 1);
        due("IMAGE 1", x.restore(1), 1);
        due("its SAYING", x.said(2), 14);
        due("the ROW", x.count(0), 1);
    }

    private static void faultsFirst() {
        Document.says("1", "FAULTS, the first TOKEN that has one (its first byte),");
        faulty("thing 4 9;", 2, 6);
        faulty("thing 2 9;thing 2 0;", 2, 8);
        faulty("thing 200 ?", 2, 6);
        faulty("thing 2 ? 999", 1, 8);
        faulty(TWO + "rule 9 9 0", 2, 25);
        faulty("  thing  2\n 111 ;", 2, 12);
        faulty("thing 2 0;  wrong 4", 1, 12);
        Document.says("1", "of one TOKEN the least:");
        faulty(TWELVE + "rule 0 0 1;thing 41 0;", 1, TWELVE.length() + 11);
        faulty(TWO + EIGHT_PAIRS + "thing 41 0;", 1, TWO.length() + EIGHT_PAIRS.length());
        faulty("thing 2 0;999", 1, 10);
        faulty("thing 1000 0;", 1, 6);
        faulty("thing 2 0;rule 0 1000 0;", 1, 17);
    }

    private static void faultsOfForm() {
        Document.says("1", "1 it cannot stand there,");
        faulty("or", 1, 0);
        faulty("thing thing 2 0;", 1, 6);
        faulty("thing ; 2 0;", 1, 6);
        faulty("thing 2 ;", 1, 8);
        faulty("thing 2 or ;", 1, 11);
        faulty("thing 2 or or 3 0;", 1, 11);
        faulty("thing 2 thing", 1, 8);
        faulty("thing 2 0 thing 3 0;", 1, 10);
        faulty("thing 2 0;or 3", 1, 10);
        faulty("thing 2 0;3", 1, 10);
        faulty("thing 2 0;rules 0 0 1;", 1, 10);
        oneLetterElse("thing", "", " 2 0;");
        oneLetterElse("or", "thing 2 ", " 3 0;");
        oneLetterElse("rule", "thing 2 0;", " 0 0 1;");
        oneLetterElse("pair", TWO, " 0 1;");
        faulty("thing 2 0;rule or 0 1;", 1, 15);
        faulty("thing 2 0;rule 0 ; 1;", 1, 17);
        faulty("thing 2 0;rule 0 0 rule;", 1, 19);
        faulty(TWO + "pair pair", 1, 25);
        faulty(TWO + "pair 0 or 1;", 1, 27);
        Document.says("1", "or is none");
        faulty("?", 1, 0);
        faulty("thing ?", 1, 6);
        faulty("thing 2 0;\t", 1, 10);
        faulty("thing 2 0;\r\n", 1, 10);
        faulty("thing 2 0;" + (char) 0, 1, 10);
        faulty("thing 2 0;" + (char) 128, 1, 10);
        faulty("thing 2 0;" + (char) 255, 1, 10);
        faulty("thing 2 0;THING 3 0;", 1, 10);
        Document.says("1", "(a run of four figures or more, at its first;");
        faulty("thing 1234 0;", 1, 6);
        faulty("thing 0000 0;", 1, 6);
        faulty("thing 2 or 0003 0;", 1, 11);
        faulty("thing 2 0000;", 1, 8);
        faulty("thing 123456789012345678901234567890 0;", 1, 6);
        faulty("1234", 1, 0);
        read("thing 003 000;", 1, 0, 0);
        Document.says("1", "the end: how many bytes there are);");
        faulty("", 1, 0);
        faulty(" \n", 1, 2);
        faulty("thing", 1, 5);
        faulty("thing   ", 1, 8);
        faulty("thing 2 0", 1, 9);
        faulty("thing 2 0 \n\n", 1, 12);
        faulty("thing 2 or", 1, 10);
        faulty(TWO + "pair 0 ", 1, 27);
    }

    /** Each letter of a word counts: with another in its place it is another NAME. */
    private static void oneLetterElse(String word, String ahead, String behind) {
        read(ahead + word + behind, ahead.equals(TWO) ? 2 : 1, word.equals("rule") ? 1 : 0, word.equals("pair") ? 1 : 0);
        for (int i = 0; i < word.length(); i++) {
            faulty(ahead + word.substring(0, i) + "x" + word.substring(i + 1) + behind, 1, ahead.length());
        }
        faulty(ahead + word.substring(0, word.length() - 1) + behind, 1, ahead.length());
        faulty(ahead + word.substring(1) + behind, 1, ahead.length());
    }

    private static void faultsOfTheRest() {
        Document.says("1", "2 a NUMBER that is not as told;");
        faulty("thing 1 0;", 2, 6);
        faulty("thing 2 or 4 0;", 2, 11);
        faulty("thing 2 5;", 2, 8);
        faulty("thing 2 0;rule 5 0 0;", 2, 15);
        faulty("thing 2 0;rule 0 10 0;", 2, 17);
        faulty("thing 2 0;rule 0 2 1;", 2, 19);
        faulty("thing 2 0;pair 0 1;", 2, 17);
        faulty("thing 2 0;pair 1 0;", 2, 15);
        Document.says("1", "3 a thing, a pair more than there is room for (its word).");
        faulty(TWELVE + "\nthing 41 0;", 3, TWELVE.length() + 1);
        faulty(TWELVE + "thing 4", 3, TWELVE.length());
        faulty(TWELVE + "thing", 3, TWELVE.length());
        faulty(TWO + EIGHT_PAIRS + " pair 9 9", 3, TWO.length() + EIGHT_PAIRS.length() + 1);
        faulty(TWO + EIGHT_PAIRS + "pair", 3, TWO.length() + EIGHT_PAIRS.length());
    }

    private static void feed() {
        Document.says("Promise 6", "The lowest n bytes of w (1 to 8),");
        SaidByTimes x = new SaidByTimes();
        due("1 byte", x.feed(0x7878787878787874L, 1), 1);
        due("4 bytes", x.feed(0x7878787868696E67L, 4), 5);
        due("5 bytes, the highest of w as a sign", x.feed(0xFFFFFF2032203020L, 5), 10);
        due("1 byte of a number below 0", x.feed(-256L + ';', 1), 11);
        due("they are a text", x.tongue(), 1);
        due("8 bytes", x.feed(-1L, 8), 8);
        due("255 is no blank", x.tongue(), Checks.NOT - 100);
        Document.says("Promise 6", "the highest of them first,");
        x.feed(0x7468696E67203220L, 8);
        x.feed(0x303BL, 2);
        due("thing 2 0;", x.tongue(), 1);
        x.feed(0x20676E696874L, 6);
        due("the other way around", x.tongue(), Checks.NOT - 101);
        Document.says("Promise 6", "come behind the tape: how many it has.");
        due("at first", x.feed(' ', 1), 1);
        due("behind it", x.feed('?', 8), 9);
        due("count(5)", x.count(5), 9);
        due("the last one is the fault", x.tongue(), Checks.NOT - 101);
        due("anew", x.feed(' ', 3), 3);
        for (int n = 1; n <= 8; n++) {
            due("a feed of " + n, new SaidByTimes().feed(-1, n), n);
        }
    }

    private static void feedRefused() {
        Document.says("Promise 6", "BAD: n;");
        for (int n : new int[] {0, -1, 9, Integer.MIN_VALUE, Integer.MAX_VALUE}) {
            Ready.bad("feed(32, " + n + ")", x -> x.feed(32, n));
        }
        Document.says("Promise 6", "FULL: none comes.");
        SaidByTimes x = new SaidByTimes();
        Checks.feed(x, " ".repeat(383) + "thing 2 0;");
        due("8 where there is room for 7", x.feed(0x2020202020202020L, 8), Checks.FULL);
        due("none came", x.count(5), 393);
        due("7 where there is room for 7", x.feed(0x20202020202020L, 7), 400);
        due("1 where there is room for none", x.feed('?', 1), Checks.FULL);
        due("8 where there is room for none", x.feed('?', 8), Checks.FULL);
        due("BAD goes ahead", x.feed('?', 9), Checks.BAD);
        due("none came", x.count(5), 400);
        due("nothing is changed", x.tongue(), 1);
        due("there is room again", x.feed(' ', 8), 8);
    }

    private static void tongue() {
        Document.says("Promise 7", "The tape, empty then, is read: how many THINGS there are.");
        SaidByTimes x = new SaidByTimes();
        due("1", Checks.tongue(x, "thing 2 0;"), 1);
        due("empty then", x.count(5), 0);
        due("12", Checks.tongue(x, TWELVE), 12);
        due("empty then", x.count(5), 0);
        due("3", Checks.tongue(x, "thing 2 0;thing 3 or 5 0;thing 7 0;"), 3);
        Document.says("Promise 7", "NOT less 100 less the place of a FAULT:");
        due("an empty tape", x.tongue(), -9000000000000000100L);
        due("a place", Checks.tongue(x, "thing 4 0;"), -9000000000000000106L);
        due("the end of a full tape", Checks.tongue(x, " ".repeat(400)), -9000000000000000500L);
        Document.says("Promise 7", "all but the tape, and what fault() tells, stays.");
        String due = withoutFault(Ready.all(Ready.withoutTape()));
        String[] texts = {"", "?", "thing 13 0", "thing 13 0;thing 17 0;rule 0 0 0;pair 0 0;", TWELVE + "thing 41 0;"};
        int[] faults = {1, 1, 1, 2, 3};
        for (int k = 0; k < texts.length; k++) {
            x = Ready.withoutTape();
            Checks.dueTrue("a FAULT of <" + texts[k] + ">", Checks.tongue(x, texts[k]) <= Checks.NOT - 100);
            due("fault() of <" + texts[k] + ">", x.fault(), faults[k]);
            due("the tape behind a FAULT", x.count(5), 0);
            due("status() behind a FAULT", x.status(), 4);
            Checks.dueText("<" + texts[k] + "> changes", withoutFault(Ready.all(x)), due);
        }
    }

    private static String withoutFault(String all) {
        return all.replaceAll("fault \\d", "");
    }

    private static void fault() {
        Document.says("Promise 8", "The number of the latest FAULT;");
        SaidByTimes x = new SaidByTimes();
        Checks.tongue(x, "thing");
        due("1", x.fault(), 1);
        Checks.tongue(x, "thing 4");
        due("2", x.fault(), 2);
        Checks.tongue(x, TWELVE + "thing");
        due("3", x.fault(), 3);
        Checks.tongue(x, "thing 2 0;");
        due("a text without one leaves it", x.fault(), 3);
        x.feed(0, 0);
        x.drop(0);
        due("what is no text leaves it", x.fault(), 3);
        Checks.tongue(x, "?");
        due("1 again", x.fault(), 1);
        Document.says("Promise 8", "0 before one.");
        x = new SaidByTimes();
        due("at first", x.fault(), 0);
        Checks.tongue(x, "thing 2 0;");
        due("behind a text without one", x.fault(), 0);
        due("another object's FAULT is not this one's", new SaidByTimes().fault(), 0);
    }
}
