/** Promises 32 to 36 at their edges: each sentence of section 4 on them has a test of its own. */
public final class EdgeFindsTest {
    private static final Check check = new Check();
    private static final Twins twins = new Twins(check);
    private static final int LEAST = Integer.MIN_VALUE;
    private static final int MOST = Integer.MAX_VALUE;

    public static void main(String[] args) {
        argumentsOfFewest();
        thirteenNumbers();
        fewestStatusOrder();
        wornOfEach();
        offOfEachColumn();
        doubleNotTheFirst();
        eachCardAtMostOne();
        countsAndSum();
        leastNumber();
        notWithTwo();
        tellsOfNoCards();
        setsOfTwo();
        firstSet();
        thirtyCards();
        misreadAtItsEnds();
        misreadOfTheLatest();
        fieldsOfParts();
        partsOfFew();
        risesStrictly();
        inksOfParts();
        noWay();
        mostWays();
        sureAndOpen();
        partedAtItsEnds();
        partedOfTheLatest();
        argumentsOfLost();
        toldOfLost();
        numbersOfLost();
        lostOfNoCards();
        lostOnAFullDeck();
        check.end();
    }

    /** Twelve counts of the told readings, and their sum, in TRAY 0. */
    private static void tell(HoleDeck deck, int... reads) {
        Check.fill(deck, 0, 3, Check.tellings(reads));
    }

    private static HoleDeck told(String[] cards, int... reads) {
        HoleDeck deck = Check.deckOf(cards);
        tell(deck, reads);
        return deck;
    }

    private static String[] cards(String... cards) {
        return cards;
    }

    // ---- MISREADS

    /** fewest(): COLUMNS 0 to 7, TRAYS 0 to 3. */
    private static void argumentsOfFewest() {
        Twins.Make none = deck -> {
            Twins.rich(deck);
            Check.fill(deck, 2, 1, 0, 0, 0, 0, 0, 0, 0, 0, 0, 0, 5, 0, 0);
            for (int card = 0; card < 5; card++) {
                deck.holes(card, 0, 0);
                deck.holes(card, 7, 0);
            }
        };
        twins.span("fewest of COLUMN", none, 0, 7, (deck, column) -> deck.fewest(column, 2));
        for (int tray : new int[] {-1, 4, LEAST, MOST}) {
            twins.refused("fewest by TRAY " + tray, Twins::rich, deck -> deck.fewest(0, tray), 1);
        }
        for (int tray = 0; tray < 4; tray++) {
            HoleDeck deck = Check.deckOf("");
            Check.fill(deck, tray, 0, 0, 0, 0, 0, 0, 0, 0, 0, 0, 0, 1, 0, 0);
            check.taken("fewest by TRAY " + tray, deck, deck.fewest(0, tray), 0);
        }
        twins.refused("fewest by a MISSING one", Twins::rich, deck -> deck.fewest(0, 3), 2);
    }

    /** "(12 counts, and the sum: 13 numbers)": 12 are too few, what stands behind 13 is not looked at. */
    private static void thirteenNumbers() {
        for (int size : new int[] {0, 12}) {
            twins.refused(size + " numbers", deck -> {
                Twins.rich(deck);
                deck.tray(2, 1, size);
            }, deck -> deck.fewest(0, 2), 3);
        }
        HoleDeck deck = Check.deckOf("5");
        Check.fill(deck, 0, 0, 0, 0, 0, 0, 0, 1, 0, 0, 0, 0, 0, 0, 5);
        check.taken("13", deck, deck.fewest(0, 0), 0);
        Check.fill(deck, 0, 0, 0, 0, 0, 0, 0, 1, 0, 0, 0, 0, 0, 0, 5, 99, -1);
        check.taken("15", deck, deck.fewest(0, 0), 0);
    }

    /** "(1, 2, 3, 6: not with two; in this order)". */
    private static void fewestStatusOrder() {
        HoleDeck deck = Check.deckOf("5");
        deck.tray(1, 0, 12);
        deck.tray(2, 0, 13);
        check.refused("1 ahead of 2", deck, deck.fewest(8, 0), 1);
        check.refused("1 ahead of 3", deck, deck.fewest(-1, 1), 1);
        check.refused("1 ahead of 6", deck, deck.fewest(8, 2), 1);
        check.refused("2 ahead of 6", deck, deck.fewest(0, 0), 2);
        check.refused("3 ahead of 6", deck, deck.fewest(0, 1), 3);
        check.refused("6", deck, deck.fewest(0, 2), 6);
    }

    private static void one(String what, HoleDeck deck, int column, int card, int kind) {
        check.taken(what, deck, deck.fewest(column, 0), 1);
        check.taken(what + ", sets", deck, deck.misread(0), 1);
        check.taken(what + ", CARD", deck, deck.misread(1), card);
        check.taken(what + ", kind", deck, deck.misread(2), kind);
    }

    /** "WORN: a CARD READS one less than it does (9 for 0; BLANK, WRONG can't be worn so)". */
    private static void wornOfEach() {
        for (int reads = 0; reads < 10; reads++) {
            HoleDeck deck = told(cards(reads + "x"), reads == 0 ? 9 : reads - 1);
            one(reads + " worn", deck, 0, 0, 0);
        }
        HoleDeck blank = told(cards(" x"), 9);
        check.refused("BLANK to 9", blank, blank.fewest(0, 0), 6);
        HoleDeck wrong = told(cards("x "), 9);
        check.refused("WRONG to 9", wrong, wrong.fewest(0, 0), 6);
        HoleDeck worn = told(cards("x5"), 10);
        check.refused("WRONG to BLANK", worn, worn.fewest(0, 0), 6);
        HoleDeck two = told(cards("3x"), 1);
        check.refused("not two less", two, two.fewest(0, 0), 6);
        HoleDeck more = told(cards("3x"), 4);
        check.refused("not one more", more, more.fewest(0, 0), 6);
    }

    /** "OFF: it READS what the next COLUMN does (not of COLUMN 7)". */
    private static void offOfEachColumn() {
        for (int column = 0; column < 7; column++) {
            for (int reads : new int[] {0, 7, 9, 10, 11}) {
                HoleDeck deck = Check.deckOf("");
                deck.holes(0, column, 16);
                deck.holes(0, column + 1, Check.holesThatRead(reads));
                tell(deck, reads);
                one("COLUMN " + column + " off to " + reads, deck, column, 0, 1);
            }
        }
        HoleDeck last = told(cards("5      4"), 5);
        check.refused("COLUMN 7 is not off to COLUMN 0", last, last.fewest(7, 0), 6);
        tell(last, 10);
        check.refused("nor to nothing", last, last.fewest(7, 0), 6);
        tell(last, 3);
        one("it can be WORN", last, 7, 0, 0);
        HoleDeck both = told(cards("       4", "       4"), 4);
        one("and DOUBLE", both, 7, 1, 2);
    }

    /** "DOUBLE: .. neither counted nor summed (not the first)": the first of the DECK, whatever its number. */
    private static void doubleNotTheFirst() {
        HoleDeck deck = told(cards("5"));
        check.refused("one CARD alone", deck, deck.fewest(0, 0), 6);
        deck = told(cards("5", "6", "7"), 5, 7);
        one("the second", deck, 0, 1, 2);
        tell(deck, 5, 6);
        one("the last", deck, 0, 2, 2);
        tell(deck, 6, 7);
        check.refused("not the first", deck, deck.fewest(0, 0), 6);
        deck.exchange(0, 2);
        tell(deck, 6, 7);
        one("CARD 0, when it is not the first", deck, 0, 0, 2);
        tell(deck, 5, 6);
        check.taken("not CARD 2, which is the first then", deck, deck.fewest(0, 0), 2);
        deck = told(cards("5", " ", "x"), 5);
        check.taken("BLANK and WRONG can be DOUBLE", deck, deck.fewest(0, 0), 2);
        check.taken("both of them", deck, deck.misread(2), 2);
        check.taken("both of them", deck, deck.misread(4), 2);
    }

    /** "(each CARD at most one)". */
    private static void eachCardAtMostOne() {
        HoleDeck deck = told(cards("5x"), 3);
        check.refused("not WORN twice", deck, deck.fewest(0, 0), 6);
        deck = told(cards("57"), 6);
        check.refused("not OFF and WORN", deck, deck.fewest(0, 0), 6);
        deck = told(cards("5x", "5x"), 4, 4);
        check.taken("each of two", deck, deck.fewest(0, 0), 2);
    }

    /** "just what a TRAY tells": one count or the sum that is another one is enough. */
    private static void countsAndSum() {
        for (int place = 0; place < 13; place++) {
            for (int by : new int[] {-1, 1}) {
                HoleDeck deck = told(cards("5 ", "6x", " 7", "x7"), 5, 6, 10, 11);
                check.taken("as it is", deck, deck.fewest(0, 0), 0);
                deck.write(0, place, deck.read(0, place) + by);
                if (by < 0 && (place == 10 || place == 11)) {
                    // one less without another sum: that CARD went double
                    one("number " + place + " by " + by, deck, 0, place - 8, 2);
                } else {
                    check.refused("number " + place + " by " + by, deck, deck.fewest(0, 0), 6);
                }
            }
        }
        HoleDeck deck = told(cards("1", "2"), 1, 2);
        deck.write(0, 12, 3 + (1L << 32));
        check.refused("a sum beyond 32 bits", deck, deck.fewest(0, 0), 6);
        deck.write(0, 12, 3);
        deck.write(0, 1, 1 + (1L << 32));
        check.refused("a count beyond 32 bits", deck, deck.fewest(0, 0), 6);
        deck.write(0, 1, Long.MIN_VALUE);
        check.refused("the least count", deck, deck.fewest(0, 0), 6);
        deck.write(0, 1, Long.MAX_VALUE);
        check.refused("the greatest count", deck, deck.fewest(0, 0), 6);
        deck.write(0, 1, 1);
        deck.write(0, 12, Long.MIN_VALUE);
        check.refused("the least sum", deck, deck.fewest(0, 0), 6);
        HoleDeck cut = Check.deckOf("9", "9", "9", "9", "9", "9", "9", "9", "9", "9", "9", "9", "9", "9", "9");
        Check.fill(cut, 0, 0, 0, 0, 0, 0, 0, 0, 0, 0, 0, 15, 0, 0, 135);
        check.refused("a sum that its sort has cut", cut, cut.fewest(0, 0), 6);
        Check.fill(cut, 0, 1, 0, 0, 0, 0, 0, 0, 0, 0, 0, 15, 0, 0, 135);
        check.taken("one of 16 bits", cut, cut.fewest(0, 0), 0);
    }

    /** "FEWEST: the least number of MISREADS (0 to 2)". */
    private static void leastNumber() {
        HoleDeck deck = told(cards("55", "44"), 5, 4);
        check.taken("none is needed", deck, deck.fewest(0, 0), 0);
        check.taken("one set", deck, deck.misread(0), 1);
        deck = told(cards("51", "4x"), 4, 4);
        check.taken("one", deck, deck.fewest(0, 0), 1);
        tell(deck, 1, 4);
        check.taken("one, OFF", deck, deck.fewest(0, 0), 1);
        tell(deck, 1, 3);
        check.taken("two", deck, deck.fewest(0, 0), 2);
    }

    /** fewest(): "6: not with two". */
    private static void notWithTwo() {
        HoleDeck deck = told(cards("5x", "5x", "5x"), 4, 4, 4);
        check.refused("three", deck, deck.fewest(0, 0), 6);
        deck = told(cards("5", "5"), 5, 5, 5);
        check.refused("one CARD more", deck, deck.fewest(0, 0), 6);
        twins.refused("three, behind one that was found", one -> {
            Twins.rich(one);
            Check.fill(one, 2, 1, 5, 0, 0, 0, 0, 0, 0, 0, 0, 0, 0, 0, 0);
        }, one -> one.fewest(0, 2), 6);
    }

    private static void tellsOfNoCards() {
        HoleDeck deck = new HoleDeck();
        tell(deck);
        check.taken("all 0", deck, deck.fewest(0, 0), 0);
        check.taken("one set", deck, deck.misread(0), 1);
        check.refused("without a CARD", deck, deck.misread(1), 6);
        for (int place = 0; place < 13; place++) {
            deck.tray(0, 0, 13);
            deck.write(0, place, 1);
            check.refused("a 1 at " + place, deck, deck.fewest(7, 0), 6);
        }
    }

    /** "how many such sets there are": a set of two is one, however it is told. */
    private static void setsOfTwo() {
        HoleDeck deck = told(cards("5x", "5x", "5x"), 4, 4, 5);
        check.taken("two of three", deck, deck.fewest(0, 0), 2);
        check.taken("three sets", deck, deck.misread(0), 3);
        deck = told(cards("54", "54"), 4, 4);
        check.taken("each WORN or OFF", deck, deck.fewest(0, 0), 2);
        check.taken("four sets", deck, deck.misread(0), 4);
        deck = told(cards("5x", "6x"), 6);
        check.refused("none of two that can't be", deck, deck.fewest(0, 0), 6);
    }

    private static void set(HoleDeck deck, int card, int kind, int other, int otherKind) {
        check.taken("two", deck, deck.fewest(0, 0), 2);
        check.taken("lesser CARD", deck, deck.misread(1), card);
        check.taken("its kind", deck, deck.misread(2), kind);
        check.taken("the other CARD", deck, deck.misread(3), other);
        check.taken("its kind", deck, deck.misread(4), otherKind);
    }

    /** "the first one: by its lesser CARD, that one's kind, then the other CARD, its kind". */
    private static void firstSet() {
        HoleDeck deck = told(cards("54", "54", "54"), 4, 4, 5);
        set(deck, 0, 0, 1, 0);
        deck.exchange(0, 2);
        set(deck, 0, 0, 1, 0);
        // CARD 0 OFF with CARD 1 WORN, or CARD 0 WORN with CARD 2 OFF: the kind comes ahead of the other CARD
        deck = told(cards("57", "5x", "x7"), 4, 7, 11);
        set(deck, 0, 1, 1, 0);
        deck = told(cards("57", "57", "5x"), 4, 7, 5);
        set(deck, 0, 0, 1, 1);
        // CARD 0 with CARD 1 or with CARD 2: the lesser other one
        deck = told(cards("5x", "3x", "3x"), 4, 2, 3);
        set(deck, 0, 0, 1, 0);
        // CARD 0 WORN with CARD 1 DOUBLE, or the other way round
        deck = told(cards("5x", "5x", "9x"), 4, 9);
        deck.exchange(0, 2);
        set(deck, 0, 0, 1, 2);
    }

    private static void thirtyCards() {
        HoleDeck deck = new HoleDeck();
        Check.fill(deck, 1, 1, 512, 256, 0, 0, 0, 0, 0, 0);
        for (int card = 0; card < 30; card++) {
            deck.punch(1, 0, -1);
        }
        Check.fill(deck, 0, 1, 0, 0, 0, 0, 0, 0, 0, 0, 2, 28, 0, 0, 268);
        check.taken("two WORN or OFF", deck, deck.fewest(0, 0), 2);
        check.taken("all pairs by four", deck, deck.misread(0), 30 * 29 / 2 * 4);
        Check.fill(deck, 0, 1, 0, 0, 0, 0, 0, 0, 0, 0, 0, 28, 0, 0, 252);
        check.taken("two DOUBLE", deck, deck.fewest(0, 0), 2);
        check.taken("all pairs without the first", deck, deck.misread(0), 29 * 28 / 2);
        check.taken("the lesser", deck, deck.misread(1), 1);
        Check.fill(deck, 0, 1, 0, 0, 0, 0, 0, 0, 0, 0, 0, 27, 0, 0, 243);
        check.refused("three DOUBLE", deck, deck.fewest(0, 0), 6);
        deck.holes(29, 0, 1);
        Check.fill(deck, 0, 1, 0, 0, 0, 0, 0, 0, 0, 0, 0, 30, 0, 0, 270);
        one("the last CARD alone", deck, 0, 29, 0);
    }

    /** misread(): what 0 to 4; "(1; 6)". */
    private static void misreadAtItsEnds() {
        Twins.Make two = deck -> {
            Twins.rich(deck);
            Check.fill(deck, 2, 1, 1, 0, 2, 0, 1, 1, 0, 0, 0, 0, 0, 0, 13);
            deck.fewest(0, 2);
        };
        HoleDeck both = told(cards("5x", "6x"), 4, 5);
        both.fewest(0, 0);
        int[] want = {1, 0, 0, 1, 0};
        for (int what = 0; what < 5; what++) {
            check.taken("misread " + what + " of two", both, both.misread(what), want[what]);
        }
        for (int what : new int[] {-1, 5, LEAST, MOST}) {
            twins.refused("misread " + what, two, deck -> deck.misread(what), 1);
        }
        twins.refused("no second of one", Twins::rich, deck -> deck.misread(3), 6);
        twins.refused("no kind of it", Twins::rich, deck -> deck.misread(4), 6);
        HoleDeck fresh = new HoleDeck();
        for (int what = 0; what < 5; what++) {
            check.refused("ahead of any", fresh, fresh.misread(what), 6);
        }
        check.refused("1 ahead of 6", fresh, fresh.misread(5), 1);
        check.refused("1 ahead of 6", fresh, fresh.misread(-1), 1);
        HoleDeck none = told(cards("5"), 5);
        none.fewest(0, 0);
        check.taken("one set", none, none.misread(0), 1);
        for (int what = 1; what < 5; what++) {
            check.refused("of none", none, none.misread(what), 6);
        }
    }

    /** "Of fewest() latest with STATUS 0". */
    private static void misreadOfTheLatest() {
        HoleDeck deck = told(cards("5x", "6x"), 4, 5);
        deck.fewest(0, 0);
        check.taken("two", deck, deck.misread(3), 1);
        tell(deck, 1, 1);
        check.refused("not with two", deck, deck.fewest(0, 0), 6);
        check.refused("no COLUMN", deck, deck.fewest(8, 0), 1);
        check.refused("MISSING", deck, deck.fewest(0, 1), 2);
        check.taken("two still", deck, deck.misread(3), 1);
        tell(deck, 5, 6);
        deck.fewest(0, 0);
        check.refused("none now", deck, deck.misread(3), 6);
        check.refused("no first one either", deck, deck.misread(1), 6);
    }

    // ---- PARTED

    private static HoleDeck ways(String reads, String inks, int want) {
        HoleDeck deck = Check.inked(reads, inks);
        check.taken("ways of " + reads + " in " + inks, deck, deck.parts(0, 0), want);
        return deck;
    }

    private static void fieldsOfParts() {
        twins.fields("parts", Twins::rich, (deck, a, b) -> deck.parts(a, b));
        HoleDeck deck = Check.deckOf("12345678", "12345679");
        check.taken("by the last six", deck, deck.parts(2, 7), 4);
        check.taken("by the first six", deck, deck.parts(0, 5), 2);
    }

    /** "(one may be empty)": no CARD, one CARD. */
    private static void partsOfFew() {
        ways("", "", 1);
        ways("5", "-", 2);
        ways("5", "0", 1);
        ways("5", "1", 1);
        ways("0", "-", 2);
        ways(" ", "-", 2);
        ways("12", "00", 1);
        ways("12", "11", 1);
        HoleDeck empty = ways("", "", 1);
        check.refused("no CARD then", empty, empty.parted(0), 1);
    }

    /** "the NUMBERS of a FIELD (its serials) rise strictly as they lie". */
    private static void risesStrictly() {
        ways("12", "--", 4);
        ways("11", "--", 2);
        ways("21", "--", 2);
        ways(" 0", "--", 2);
        ways("111", "---", 0);
        ways("321", "---", 0);
        ways("212", "---", 2);
        ways("123", "---", 8);
        HoleDeck deck = Check.inked("21", "00");
        check.taken("as they lie", deck, deck.parts(0, 0), 0);
        deck.exchange(0, 1);
        check.taken("exchanged they rise", deck, deck.parts(0, 0), 1);
    }

    /** "a CARD in INK 0 is of deck 0, in INK 1 of deck 1, in none of either". */
    private static void inksOfParts() {
        ways("11", "01", 1);
        ways("11", "00", 0);
        ways("11", "11", 0);
        ways("11", "0-", 1);
        ways("11", "-1", 1);
        ways("12", "0-", 2);
        ways("1212", "0011", 1);
        ways("1122", "0101", 1);
        ways("1212", "0101", 0);
        ways("2112", "0110", 0);
    }

    /** "(No WAY, if a CARD's FIELD is none.)": an answer of 0, with STATUS 0. */
    private static void noWay() {
        ways("x", "-", 0);
        ways("x", "0", 0);
        ways("1x", "01", 0);
        ways("x1", "01", 0);
        HoleDeck deck = ways("11x", "01-", 0);
        for (int card = -1; card < 4; card++) {
            check.refused("no WAY", deck, deck.parted(card), 6);
        }
    }

    /** Thirty CARDS that rise in no INK: 2 to the 30 WAYS. */
    private static void mostWays() {
        HoleDeck deck = new HoleDeck();
        deck.tray(0, 1, 8);
        for (int card = 0; card < 30; card++) {
            deck.write(0, 6, 1 << card / 10);
            deck.write(0, 7, 1 << card % 10);
            deck.punch(0, 0, -1);
        }
        check.taken("all WAYS", deck, deck.parts(6, 7), 1 << 30);
        for (int card = 0; card < 30; card++) {
            check.taken("OPEN", deck, deck.parted(card), 2);
        }
        check.refused("no CARD 30", deck, deck.parted(30), 1);
        check.taken("by one digit: three falls", deck, deck.parts(7, 7), 0);
    }

    private static void parted(HoleDeck deck, String want) {
        for (int card = 0; card < want.length(); card++) {
            check.taken("CARD " + card + " of " + want, deck, deck.parted(card), want.charAt(card) - '0');
        }
    }

    /** "SURE of a deck, if it is in it in all WAYS, OPEN, if there are both". */
    private static void sureAndOpen() {
        parted(ways("5", "-", 2), "2");
        parted(ways("5", "0", 1), "0");
        parted(ways("5", "1", 1), "1");
        parted(ways("21", "--", 2), "22");
        parted(ways("21", "0-", 1), "01");
        parted(ways("21", "-0", 1), "10");
        parted(ways("21", "1-", 1), "10");
        parted(ways("213", "0--", 2), "012");
        parted(ways("2133", "0---", 2), "0122");
        HoleDeck deck = Check.inked("12", "0-");
        deck.exchange(0, 1);
        check.taken("by the DECK as it lies", deck, deck.parts(0, 0), 1);
        parted(deck, "01");
    }

    /** parted(): "(1: no such CARD then; 6: there was none, no WAY; 6 asked first)". */
    private static void partedAtItsEnds() {
        twins.span("parted", Twins::rich, 0, 4, (deck, card) -> deck.parted(card));
        HoleDeck fresh = Check.deckOf("1");
        for (int card : new int[] {0, 1, -1, LEAST, MOST}) {
            check.refused("6 asked first", fresh, fresh.parted(card), 6);
        }
        twins.refused("ahead of any", deck -> Check.punch(deck, "1"), deck -> deck.parted(0), 6);
    }

    /** "by parts() latest with STATUS 0". */
    private static void partedOfTheLatest() {
        HoleDeck deck = ways("21", "0-", 1);
        check.taken("a CARD more", deck, Check.punch(deck, "3"), 2);
        check.refused("was no CARD then", deck, deck.parted(2), 1);
        check.refused("refused", deck, deck.parts(1, 0), 1);
        deck.exchange(0, 1);
        deck.holes(0, 0, 3);
        parted(deck, "01");
        check.taken("no WAY", deck, deck.parts(0, 0), 0);
        check.refused("none", deck, deck.parted(0), 6);
        deck.holes(0, 0, 1);
        check.taken("a WAY again", deck, deck.parts(0, 0), 2);
        parted(deck, "012");
    }

    // ---- LOST

    /** lost(): FIELDS, places 1 to 9, what 0 and 1. */
    private static void argumentsOfLost() {
        twins.fields("lost", Twins::rich, (deck, a, b) -> deck.lost(a, b, 1, 0, 0));
        twins.span("places of LOST", Twins::rich, 1, 9, (deck, places) -> deck.lost(0, 1, places, 0, 0));
        twins.span("what of LOST", Twins::rich, 0, 1, (deck, what) -> deck.lost(0, 1, 1, 0, what));
    }

    /** "(0 to 999,999,999, less than the WHEEL has)". */
    private static void toldOfLost() {
        int ten = 1;
        for (int places = 1; places <= 9; places++) {
            ten *= 10;
            int wheel = places;
            twins.span("told on " + places, Twins::rich, 0, ten - 1, (deck, told) -> deck.lost(0, 1, wheel, told, 0));
        }
        HoleDeck deck = new HoleDeck();
        check.refused("1 ahead of 6", deck, deck.lost(0, 0, 9, 1000000000, 1), 1);
        check.refused("6", deck, deck.lost(0, 0, 9, 999999999, 1), 6);
    }

    private static void lost(HoleDeck deck, int b, int places, int told, int many, int least) {
        String what = "told " + told + " on " + places;
        check.taken(what + ", how many", deck, deck.lost(0, b, places, told, 0), many);
        if (many == 0) {
            check.refused(what + ", none", deck, deck.lost(0, b, places, told, 1), 6);
        } else {
            check.taken(what + ", the least", deck, deck.lost(0, b, places, told, 1), least);
        }
    }

    /** "the NUMBERS (0 and above, of as many digits as the FIELD has COLUMNS, at most)": how many, the least. */
    private static void numbersOfLost() {
        HoleDeck deck = Check.deckOf("95", "x1");
        lost(deck, 1, 9, 95, 1, 0);
        lost(deck, 1, 9, 96, 1, 1);
        lost(deck, 1, 9, 94, 0, 0);
        lost(deck, 1, 9, 194, 1, 99);
        lost(deck, 1, 9, 195, 0, 0);
        lost(deck, 1, 3, 194, 1, 99);
        lost(deck, 1, 3, 195, 0, 0);
        lost(deck, 1, 3, 94, 0, 0);
        lost(deck, 1, 2, 95, 1, 0);
        lost(deck, 1, 2, 94, 1, 99);
        lost(deck, 1, 2, 0, 1, 5);
        lost(deck, 1, 1, 5, 10, 0);
        lost(deck, 1, 1, 4, 10, 9);
        lost(deck, 0, 1, 9, 1, 0);
        lost(deck, 0, 1, 8, 1, 9);
        lost(deck, 0, 2, 9, 1, 0);
        lost(deck, 0, 2, 18, 1, 9);
        lost(deck, 0, 2, 19, 0, 0);
        lost(deck, 0, 2, 8, 0, 0);
        twins.refused("no NUMBER", Twins::rich, one -> one.lost(0, 0, 9, 999999999, 1), 6);
    }

    private static void lostOfNoCards() {
        HoleDeck deck = new HoleDeck();
        lost(deck, 0, 1, 0, 1, 0);
        lost(deck, 0, 1, 9, 1, 9);
        lost(deck, 5, 9, 999999, 1, 999999);
        lost(deck, 5, 9, 1000000, 0, 0);
        lost(deck, 5, 1, 0, 100000, 0);
        lost(deck, 5, 1, 9, 100000, 9);
        lost(deck, 5, 6, 999999, 1, 999999);
        lost(deck, 5, 5, 99999, 10, 99999);
    }

    private static void lostOnAFullDeck() {
        HoleDeck deck = new HoleDeck();
        Check.fill(deck, 0, 1, 512, 512, 512, 512, 512, 512, 512, 512);
        for (int card = 0; card < 30; card++) {
            deck.punch(0, 0, -1);
        }
        lost(deck, 5, 9, 29999970, 1, 0);
        lost(deck, 5, 9, 29999969, 0, 0);
        lost(deck, 5, 9, 29999970 + 999999, 1, 999999);
        lost(deck, 5, 9, 29999970 + 1000000, 0, 0);
        lost(deck, 5, 7, 9999970, 1, 0);
        lost(deck, 5, 7, 999970, 0, 0);
        lost(deck, 5, 7, 999969, 1, 999999);
        lost(deck, 5, 6, 999969, 1, 999999);
        lost(deck, 5, 6, 999970, 1, 0);
    }
}
