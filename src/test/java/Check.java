/** What the tests share: due answers, texts for the tape, cards by what they read. */
final class Check {
    private int wrong = 0;
    private int asked = 0;

    void due(String what, long got, long want) {
        asked++;
        if (got != want) {
            wrong++;
            System.out.println(what + " answered " + got + ", due is " + want);
        }
    }

    void due(String what, boolean got, boolean want) {
        due(what, got ? 1 : 0, want ? 1 : 0);
    }

    /** A call that is to be refused: NONE, and the status that says why. */
    void refused(String what, HoleDeck deck, long got, int status) {
        due(what, got, HoleDeck.NONE);
        due(what + ", status", deck.status(), status);
    }

    void refused(String what, HoleDeck deck, boolean got, int status) {
        due(what, got, false);
        due(what + ", status", deck.status(), status);
    }

    /** A call that is to be taken: the answer, and status 0. */
    void taken(String what, HoleDeck deck, long got, long want) {
        due(what, got, want);
        due(what + ", status", deck.status(), 0);
    }

    void taken(String what, HoleDeck deck, boolean got) {
        due(what, got, true);
        due(what + ", status", deck.status(), 0);
    }

    void end() {
        System.out.println(asked + " asked, " + wrong + " wrong");
        if (wrong != 0) {
            System.exit(1);
        }
    }

    /** Feeds a text, with zeros behind it up to twenty bytes: its length. */
    static int feed(HoleDeck deck, String text) {
        for (int at = 0; at < text.length(); at += 20) {
            int[] ints = new int[5];
            for (int i = 0; i < 20; i++) {
                int sign = at + i < text.length() ? text.charAt(at + i) & 255 : 0;
                ints[i / 4] = ints[i / 4] << 8 | sign;
            }
            deck.feed(ints[0], ints[1], ints[2], ints[3], ints[4]);
        }
        return text.length();
    }

    static int book(HoleDeck deck, String text) {
        return deck.book(feed(deck, text));
    }

    static int program(HoleDeck deck, String text) {
        return deck.program(feed(deck, text));
    }

    void fault(String text, boolean ofBook, int kind, int place) {
        HoleDeck deck = new HoleDeck();
        fault(deck, text, ofBook, kind, place);
    }

    void fault(HoleDeck deck, String text, boolean ofBook, int kind, int place) {
        int got = ofBook ? book(deck, text) : program(deck, text);
        refused("\"" + text + "\"", deck, got, 9);
        due("\"" + text + "\" fault", deck.fault(0), kind);
        due("\"" + text + "\" place", deck.fault(1), place);
    }

    /** Digits, ' ' for a blank column, 'x' for a wrong one; columns that are not told are blank. */
    static int punch(HoleDeck deck, String reads, int clerk, int ink) {
        return punchBy(deck, 3, reads, clerk, ink);
    }

    /** By a tray of choice, which is of 16 bits then. */
    static int punchBy(HoleDeck deck, int tray, String reads, int clerk, int ink) {
        deck.tray(tray, 1, 8);
        for (int column = 0; column < 8; column++) {
            deck.write(tray, column, holes(column < reads.length() ? reads.charAt(column) : ' '));
        }
        return deck.punch(tray, clerk, ink);
    }

    static int punch(HoleDeck deck, String reads) {
        return punch(deck, reads, 0, HoleDeck.NONE);
    }

    private static int holes(char sign) {
        if (sign == ' ') {
            return 0;
        }
        return sign == 'x' ? 3 : 1 << (sign - '0');
    }

    /** Holes that read so: 0 to 9, 10 for a blank column, 11 for a wrong one. */
    static int holesThatRead(int reads) {
        return reads < 10 ? 1 << reads : reads == 10 ? 0 : 1024;
    }

    /** Cards by what their first column reads, and by their ink, '-' for none. */
    static HoleDeck inked(String reads, String inks) {
        HoleDeck deck = new HoleDeck();
        for (int card = 0; card < reads.length(); card++) {
            char ink = inks.charAt(card);
            punch(deck, "" + reads.charAt(card), 0, ink == '-' ? -1 : ink - '0');
        }
        return deck;
    }

    /** What a column tells if its cards read so: twelve counts and the sum. */
    static long[] tellings(int... reads) {
        long[] numbers = new long[13];
        for (int read : reads) {
            numbers[read]++;
            numbers[12] += read < 10 ? read : 0;
        }
        return numbers;
    }

    static HoleDeck deckOf(String... cards) {
        HoleDeck deck = new HoleDeck();
        for (String card : cards) {
            punch(deck, card);
        }
        return deck;
    }

    static void fill(HoleDeck deck, int tray, int sort, long... numbers) {
        deck.tray(tray, sort, numbers.length);
        for (int i = 0; i < numbers.length; i++) {
            deck.write(tray, i, numbers[i]);
        }
    }

    /** The deck as it lies, as one text of card numbers. */
    static String order(HoleDeck deck) {
        StringBuilder out = new StringBuilder();
        for (int place = 0; place < deck.many(0); place++) {
            out.append(place == 0 ? "" : " ").append(deck.lies(place));
        }
        return out.toString();
    }

    void lies(String what, HoleDeck deck, String want) {
        asked++;
        String got = order(deck);
        if (!got.equals(want)) {
            wrong++;
            System.out.println(what + ": the deck lies " + got + ", due is " + want);
        }
    }
}
