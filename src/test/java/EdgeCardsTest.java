/** Promises 9 to 13 and 17 at their edges: each sentence that names a boundary has a test of its own. */
public final class EdgeCardsTest {
    private static final Check check = new Check();
    private static final Twins twins = new Twins(check);
    private static final int LEAST = Integer.MIN_VALUE;
    private static final int MOST = Integer.MAX_VALUE;

    public static void main(String[] args) {
        trayOfPunch();
        clerks();
        inks();
        eightNumbers();
        holesInATray();
        holesOfEachSort();
        thirtyCards();
        numberedAsPunched();
        newOneComesToTheEnd();
        punchStatusOrder();
        whatColumnsRead();
        holesOfAColumn();
        whatOfACard();
        inkThatIsNone();
        noCards();
        lies();
        exchange();
        exchangeOfAll();
        many();
        check.end();
    }

    private static void eight(HoleDeck deck) {
        Twins.rich(deck);
        Check.fill(deck, 2, 1, 1, 2, 4, 8, 16, 32, 64, 128);
    }

    private static void full(HoleDeck deck) {
        Check.fill(deck, 0, 1, 1, 2, 4, 8, 16, 32, 64, 128);
        for (int card = 0; card < 30; card++) {
            deck.punch(0, card % 2, card % 3 - 1);
        }
    }

    /** punch(): TRAYS 0 to 3, the MISSING ones. */
    private static void trayOfPunch() {
        twins.refused("punch by TRAY -1", EdgeCardsTest::eight, deck -> deck.punch(-1, 0, 0), 1);
        twins.refused("punch by TRAY 4", EdgeCardsTest::eight, deck -> deck.punch(4, 0, 0), 1);
        twins.refused("punch by the least", EdgeCardsTest::eight, deck -> deck.punch(LEAST, 0, 0), 1);
        twins.refused("punch by the most", EdgeCardsTest::eight, deck -> deck.punch(MOST, 0, 0), 1);
        twins.refused("punch by a MISSING one", EdgeCardsTest::eight, deck -> deck.punch(3, 0, 0), 2);
        for (int tray = 0; tray < 4; tray++) {
            HoleDeck deck = new HoleDeck();
            deck.tray(tray, 0, 8);
            deck.write(tray, 3, tray + 1);
            check.taken("punch by TRAY " + tray, deck, deck.punch(tray, 0, 0), 0);
            check.taken("its HOLES", deck, deck.card(0, 3), tray + 1);
        }
    }

    /** "a CLERK (0 or 1) punched it". */
    private static void clerks() {
        twins.span("CLERK", EdgeCardsTest::eight, 0, 1, (deck, clerk) -> deck.punch(2, clerk, 0));
        HoleDeck deck = new HoleDeck();
        deck.tray(0, 0, 8);
        deck.punch(0, 0, 0);
        deck.punch(0, 1, 0);
        check.taken("CLERK 0", deck, deck.card(0, 16), 0);
        check.taken("CLERK 1", deck, deck.card(1, 16), 1);
    }

    /** "in INK 0, 1 or NONE". */
    private static void inks() {
        twins.span("INK", EdgeCardsTest::eight, -1, 1, (deck, ink) -> deck.punch(2, 0, ink));
        HoleDeck deck = new HoleDeck();
        deck.tray(0, 0, 8);
        deck.punch(0, 1, -1);
        deck.punch(0, 1, 0);
        deck.punch(0, 1, 1);
        check.refused("no INK", deck, deck.card(0, 17), 6);
        check.taken("INK 0", deck, deck.card(1, 17), 0);
        check.taken("INK 1", deck, deck.card(2, 17), 1);
    }

    /** "8 COLUMNS in a TRAY": with 7 numbers there are too few, more than 8 are not looked at. */
    private static void eightNumbers() {
        twins.refused("no number", deck -> {
            eight(deck);
            deck.tray(2, 1, 0);
        }, deck -> deck.punch(2, 0, 0), 3);
        twins.refused("seven numbers", deck -> {
            eight(deck);
            deck.tray(2, 1, 7);
        }, deck -> deck.punch(2, 0, 0), 3);
        HoleDeck deck = new HoleDeck();
        Check.fill(deck, 0, 3, 0, 1, 2, 3, 4, 5, 6, 7);
        check.taken("eight", deck, deck.punch(0, 0, 0), 0);
        Check.fill(deck, 0, 3, 10, 11, 12, 13, 14, 15, 16, 17, -1, 4096, 1L << 40);
        check.taken("what stands behind them counts for nothing", deck, deck.punch(0, 0, 0), 1);
        for (int column = 0; column < 8; column++) {
            check.taken("the first's HOLES", deck, deck.card(0, column), column);
            check.taken("the second's HOLES", deck, deck.card(1, column), 10 + column);
        }
        deck.tray(0, 3, 60);
        check.taken("sixty", deck, deck.punch(0, 0, 0), 2);
    }

    /** "(each 0 to 4,095)": in any of the eight COLUMNS. */
    private static void holesInATray() {
        for (int column = 0; column < 8; column++) {
            for (long bad : new long[] {-1, 4096, Long.MIN_VALUE, Long.MAX_VALUE, 1L << 32, -4096}) {
                HoleDeck deck = new HoleDeck();
                deck.tray(0, 3, 8);
                deck.write(0, column, bad);
                check.refused(bad + " in COLUMN " + column, deck, deck.punch(0, 0, 0), 5);
                check.taken("no CARD", deck, deck.many(0), 0);
                deck.write(0, column, 4095);
                check.taken("4,095 is taken", deck, deck.punch(0, 0, 0), 0);
                check.taken("4,095 HOLES", deck, deck.card(0, column), 4095);
                deck.write(0, column, 0);
                check.taken("0 is taken", deck, deck.punch(0, 0, 0), 1);
                check.taken("0 HOLES", deck, deck.card(1, column), 0);
            }
        }
        for (long bad : new long[] {-1, 4096}) {
            twins.refused(bad + " HOLES", deck -> {
                eight(deck);
                deck.write(2, 7, bad);
            }, deck -> deck.punch(2, 0, 0), 5);
        }
    }

    /** A TRAY of any sort is punched by; of 8 bits 128 is below 0, so that it can't be. */
    private static void holesOfEachSort() {
        for (int sort = 0; sort < 4; sort++) {
            HoleDeck deck = new HoleDeck();
            deck.tray(0, sort, 8);
            deck.write(0, 0, 127);
            check.taken("127 of sort " + sort, deck, deck.punch(0, 0, 0), 0);
            check.taken("its HOLES", deck, deck.card(0, 0), 127);
            deck.write(0, 0, 128);
            check.due("128 of sort " + sort, deck.punch(0, 0, 0), sort == 0 ? -1 : 1);
            check.due("its STATUS", deck.status(), sort == 0 ? 5 : 0);
        }
    }

    /** "CARDS, at most 30." */
    private static void thirtyCards() {
        HoleDeck deck = new HoleDeck();
        deck.tray(0, 1, 8);
        for (int card = 0; card < 30; card++) {
            deck.write(0, 7, card);
            check.taken("its number", deck, deck.punch(0, card / 15, card % 3 - 1), card);
            check.taken("so many", deck, deck.many(0), card + 1);
        }
        check.refused("a 31st", deck, deck.punch(0, 0, 0), 4);
        for (int card = 0; card < 30; card++) {
            check.taken("HOLES of CARD " + card, deck, deck.card(card, 7), card);
            check.taken("it lies", deck, deck.lies(card), card);
            check.taken("its CLERK", deck, deck.card(card, 16), card / 15);
            check.due("its INK", deck.card(card, 17), card % 3 - 1);
        }
        check.refused("no CARD 30", deck, deck.card(30, 0), 1);
        check.refused("none lies at 30", deck, deck.lies(30), 6);
        twins.refused("a 31st CARD", EdgeCardsTest::full, one -> one.punch(0, 1, 1), 4);
    }

    /** "numbered as they are punched", however the DECK lies. */
    private static void numberedAsPunched() {
        HoleDeck deck = new HoleDeck();
        Check.punch(deck, "3");
        Check.punch(deck, "2");
        deck.pass(0, false);
        check.taken("the third", deck, Check.punch(deck, "1"), 2);
        deck.pass(0, false);
        check.taken("the fourth", deck, Check.punch(deck, "0"), 3);
        check.lies("the DECK", deck, "2 1 0 3");
        check.taken("what CARD 0 READS", deck, deck.card(0, 8), 3);
        check.taken("what CARD 3 READS", deck, deck.card(3, 8), 0);
    }

    /** "a new one comes to its end"; "WEAR: .. (0 at first)". */
    private static void newOneComesToTheEnd() {
        HoleDeck deck = new HoleDeck();
        check.taken("the only one", deck, Check.punch(deck, "5"), 0);
        check.taken("is the first", deck, deck.card(0, 19), 0);
        check.taken("its WEAR", deck, deck.card(0, 18), 0);
        deck.pass(0, false);
        Check.punch(deck, "4");
        check.taken("a second is behind it", deck, deck.card(1, 19), 1);
        check.taken("the WEAR of a new one", deck, deck.card(1, 18), 0);
        check.taken("the WEAR of the old one", deck, deck.card(0, 18), 1);
        deck.pass(0, false);
        check.lies("sorted", deck, "1 0");
        Check.punch(deck, "4");
        check.taken("behind all", deck, deck.lies(2), 2);
    }

    /** punch(): "(1, 2, 3, 5, 4; in this order)". */
    private static void punchStatusOrder() {
        HoleDeck deck = new HoleDeck();
        full(deck);
        Check.fill(deck, 1, 1, -1, 0, 0, 0, 0, 0, 0);
        Check.fill(deck, 2, 1, 0, 0, 0, 0, 0, 0, 0, 4096);
        check.refused("1 ahead of 2: CLERK", deck, deck.punch(3, 2, 0), 1);
        check.refused("1 ahead of 2: INK", deck, deck.punch(3, 0, 2), 1);
        check.refused("1 ahead of 3", deck, deck.punch(1, -1, 0), 1);
        check.refused("1 ahead of 5", deck, deck.punch(2, 0, -2), 1);
        check.refused("1 ahead of 4", deck, deck.punch(0, 2, 0), 1);
        check.refused("2 ahead of 4", deck, deck.punch(3, 0, 0), 2);
        check.refused("3 ahead of 5 and 4", deck, deck.punch(1, 0, 0), 3);
        check.refused("5 ahead of 4", deck, deck.punch(2, 0, 0), 5);
        check.refused("4", deck, deck.punch(0, 0, 0), 4);
    }

    /** "without any HOLE 10 (BLANK); with one HOLE of 0 to 9, whatever ZONES: that; else 11": all 4,096 sets. */
    private static void whatColumnsRead() {
        for (int from = 0; from < 4096; from += 64) {
            HoleDeck deck = Check.deckOf("");
            for (int holes = from; holes < from + 64; holes++) {
                deck.holes(0, holes % 8, holes);
                int digits = holes % 1024;
                boolean one = Integer.bitCount(digits) == 1;
                int want = holes == 0 ? 10 : one ? Integer.numberOfTrailingZeros(digits) : 11;
                check.taken("HOLES " + holes + " READ", deck, deck.card(0, 8 + holes % 8), want);
                check.taken("HOLES " + holes, deck, deck.card(0, holes % 8), holes);
            }
        }
    }

    /** holes(): CARDS there are, COLUMNS 0 to 7, "(0 to 4,095)". */
    private static void holesOfAColumn() {
        twins.askedSpan("holes of CARD", Twins::rich, 0, 4, (deck, card) -> deck.holes(card, 1, 5));
        twins.askedSpan("holes of COLUMN", Twins::rich, 0, 7, (deck, column) -> deck.holes(1, column, 5));
        twins.askedSpan("HOLES", Twins::rich, 0, 4095, (deck, holes) -> deck.holes(1, 1, holes));
        HoleDeck deck = Check.deckOf("01234567", "01234567", "01234567");
        check.taken("the first COLUMN", deck, deck.holes(1, 0, 4095));
        check.taken("the last COLUMN", deck, deck.holes(1, 7, 0));
        for (int column = 0; column < 8; column++) {
            check.taken("CARD 0 is as it was", deck, deck.card(0, 8 + column), column);
            check.taken("CARD 2 is as it was", deck, deck.card(2, 8 + column), column);
            int want = column == 0 ? 11 : column == 7 ? 10 : column;
            check.taken("CARD 1", deck, deck.card(1, 8 + column), want);
        }
    }

    /** card(): what 0 to 19. */
    private static void whatOfACard() {
        twins.span("CARD", Twins::rich, 0, 4, (deck, card) -> deck.card(card, 0));
        twins.span("what of a CARD", Twins::rich, 0, 19, (deck, what) -> deck.card(1, what));
        HoleDeck deck = new HoleDeck();
        Check.punch(deck, "9", 0, 0);
        Check.fill(deck, 0, 1, 1, 1026, 2052, 3080, 16, 0, 3, 512);
        deck.punch(0, 1, 1);
        deck.pass(0, false);
        deck.pass(0, false);
        deck.pass(0, false);
        int[] want = {1, 1026, 2052, 3080, 16, 0, 3, 512, 0, 1, 2, 3, 4, 10, 11, 9, 1, 1, 3, 0};
        for (int what = 0; what < 20; what++) {
            check.taken("what " + what, deck, deck.card(1, what), want[what]);
        }
        check.taken("the place of the other", deck, deck.card(0, 19), 1);
    }

    /** card(card, 17): "its INK (6: none)". */
    private static void inkThatIsNone() {
        twins.refused("the INK of a CARD in none", Twins::rich, deck -> deck.card(2, 17), 6);
        HoleDeck deck = new HoleDeck();
        Check.punch(deck, "", 0, -1);
        check.refused("1 ahead of 6", deck, deck.card(0, 20), 1);
        check.refused("no CARD 1", deck, deck.card(1, 17), 1);
    }

    /** Without any CARD there is no CARD 0. */
    private static void noCards() {
        HoleDeck deck = new HoleDeck();
        check.refused("card", deck, deck.card(0, 0), 1);
        check.refused("holes", deck, deck.holes(0, 0, 0), 1);
        check.refused("exchange", deck, deck.exchange(0, 1), 1);
        check.refused("field", deck, deck.field(0, 0, 0), 1);
        check.refused("anew", deck, deck.anew(0), 1);
        check.refused("meaning", deck, deck.meaning(0, 0, 0), 1);
        check.refused("lies", deck, deck.lies(0), 6);
        check.refused("lies below 0", deck, deck.lies(-1), 1);
    }

    /** lies(): "(from 0) (1: below 0; 6)". */
    private static void lies() {
        twins.refused("below 0", Twins::rich, deck -> deck.lies(-1), 1);
        twins.refused("the least", Twins::rich, deck -> deck.lies(LEAST), 1);
        twins.refused("just behind the last", Twins::rich, deck -> deck.lies(5), 6);
        twins.refused("at 30", Twins::rich, deck -> deck.lies(30), 6);
        twins.refused("the most", Twins::rich, deck -> deck.lies(MOST), 6);
        HoleDeck deck = new HoleDeck();
        full(deck);
        check.taken("the first of thirty", deck, deck.lies(0), 0);
        check.taken("the last of thirty", deck, deck.lies(29), 29);
        check.refused("behind thirty", deck, deck.lies(30), 6);
    }

    /** exchange(): "(1: one and the same, too)". */
    private static void exchange() {
        twins.askedSpan("exchange with CARD", Twins::rich, 0, 4, (deck, card) -> deck.exchange(card, 2));
        twins.askedSpan("exchange of 2 and CARD", Twins::rich, 0, 4, (deck, card) -> deck.exchange(2, card));
        for (int card = 0; card < 5; card++) {
            int same = card;
            twins.denied("CARD " + card + " with itself", Twins::rich, deck -> deck.exchange(same, same), 1);
        }
        twins.denied("no CARD with itself", Twins::rich, deck -> deck.exchange(-1, -1), 1);
        HoleDeck one = Check.deckOf("1");
        check.refused("one CARD alone", one, one.exchange(0, 0), 1);
        HoleDeck two = Check.deckOf("1", "2");
        check.taken("the only two", two, two.exchange(1, 0));
        check.lies("exchanged", two, "1 0");
        check.taken("and back", two, two.exchange(1, 0));
        check.lies("as they lay", two, "0 1");
    }

    /** The first and the last of thirty change places; WEAR and HOURS are as they were. */
    private static void exchangeOfAll() {
        HoleDeck deck = new HoleDeck();
        full(deck);
        check.taken("first and last", deck, deck.exchange(0, 29));
        check.taken("the last is the first", deck, deck.lies(0), 29);
        check.taken("the first is the last", deck, deck.lies(29), 0);
        for (int place = 1; place < 29; place++) {
            check.taken("those between", deck, deck.lies(place), place);
        }
        check.taken("the place of 0", deck, deck.card(0, 19), 29);
        check.taken("no WEAR", deck, deck.card(0, 18), 0);
        check.taken("no HOURS", deck, deck.many(3), 0);
    }

    /** many(): what 0 to 3. */
    private static void many() {
        twins.span("many", Twins::rich, 0, 3, (deck, what) -> deck.many(what));
        HoleDeck deck = new HoleDeck();
        Twins.rich(deck);
        check.taken("CARDS", deck, deck.many(0), 5);
        check.taken("CODES", deck, deck.many(1), 3);
        check.taken("MEANS", deck, deck.many(2), 3);
        check.taken("minutes", deck, deck.many(3), 114);
    }
}
