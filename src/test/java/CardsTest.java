/** Promises 9 to 13 and 17: cards and the deck. */
public final class CardsTest {
    private static final Check check = new Check();

    public static void main(String[] args) {
        punch();
        punchOrder();
        readings();
        card();
        lies();
        exchange();
        many();
        check.end();
    }

    private static void punch() {
        HoleDeck deck = new HoleDeck();
        Check.fill(deck, 0, 1, 1, 2, 4, 8, 16, 32, 4095, 0, -7, 5000);
        check.taken("the first", deck, deck.punch(0, 1, 0), 0);
        long[] holes = {1, 2, 4, 8, 16, 32, 4095, 0};
        for (int column = 0; column < 8; column++) {
            check.taken("holes of column " + column, deck, deck.card(0, column), holes[column]);
        }
        check.taken("clerk", deck, deck.card(0, 16), 1);
        check.taken("ink", deck, deck.card(0, 17), 0);
        check.taken("wear", deck, deck.card(0, 18), 0);
        check.taken("in ink 1", deck, deck.punch(0, 0, 1), 1);
        check.taken("clerk 0", deck, deck.card(1, 16), 0);
        check.taken("ink 1", deck, deck.card(1, 17), 1);
        check.taken("in none", deck, deck.punch(0, 0, -1), 2);
        check.refused("its ink", deck, deck.card(2, 17), 6);
        check.taken("at the end of the deck", deck, deck.card(2, 19), 2);
        for (int number = 3; number < 30; number++) {
            check.taken("card " + number, deck, deck.punch(0, 0, 0), number);
        }
        check.refused("the 31st", deck, deck.punch(0, 0, 0), 4);
        check.due("how many", deck.many(0), 30);
        deck.write(0, 7, 4096);
        check.refused("a bad number ahead of one too many", deck, deck.punch(0, 0, 0), 5);
    }

    private static void punchOrder() {
        HoleDeck deck = new HoleDeck();
        check.refused("tray 4", deck, deck.punch(4, 0, 0), 1);
        check.refused("tray -1", deck, deck.punch(-1, 0, 0), 1);
        check.refused("clerk 2", deck, deck.punch(0, 2, 0), 1);
        check.refused("clerk -1", deck, deck.punch(0, -1, 0), 1);
        check.refused("ink 2", deck, deck.punch(0, 0, 2), 1);
        check.refused("ink -2", deck, deck.punch(0, 0, -2), 1);
        check.refused("missing", deck, deck.punch(0, 0, 0), 2);
        Check.fill(deck, 0, 2, 0, 0, 0, 0, 0, 0, -1);
        check.refused("seven numbers", deck, deck.punch(0, 0, 0), 3);
        Check.fill(deck, 0, 2, 0, 0, 0, 0, 0, 0, 0, -1);
        check.refused("below 0", deck, deck.punch(0, 0, 0), 5);
        deck.write(0, 7, 4096);
        check.refused("above 4,095", deck, deck.punch(0, 0, 0), 5);
        Check.fill(deck, 0, 3, 1L << 32, 0, 0, 0, 0, 0, 0, 0);
        check.refused("far above", deck, deck.punch(0, 0, 0), 5);
        check.due("none was punched", deck.many(0), 0);
    }

    private static void readings() {
        HoleDeck deck = Check.deckOf("");
        for (int digit = 0; digit < 10; digit++) {
            reads(deck, 1 << digit, digit);
            reads(deck, 1 << digit | 1024, digit);
            reads(deck, 1 << digit | 2048, digit);
            reads(deck, 1 << digit | 3072, digit);
        }
        reads(deck, 0, 10);
        reads(deck, 1024, 11);
        reads(deck, 2048, 11);
        reads(deck, 3072, 11);
        reads(deck, 3, 11);
        reads(deck, 513, 11);
        reads(deck, 4095, 11);
        check.refused("holes of card 1", deck, deck.holes(1, 0, 0), 1);
        check.refused("holes of card -1", deck, deck.holes(-1, 0, 0), 1);
        check.refused("column 8", deck, deck.holes(0, 8, 0), 1);
        check.refused("column -1", deck, deck.holes(0, -1, 0), 1);
        check.refused("holes -1", deck, deck.holes(0, 0, -1), 1);
        check.refused("holes 4,096", deck, deck.holes(0, 0, 4096), 1);
        check.due("the others are as they were", deck.card(0, 0), 0);
    }

    private static void reads(HoleDeck deck, int holes, int want) {
        check.taken("holes " + holes, deck, deck.holes(0, 5, holes));
        check.due("holes kept", deck.card(0, 5), holes);
        check.taken("what they read, " + holes, deck, deck.card(0, 13), want);
    }

    private static void card() {
        HoleDeck deck = Check.deckOf("01234567", "89      ");
        for (int column = 0; column < 8; column++) {
            check.taken("card(0, " + (8 + column) + ")", deck, deck.card(0, 8 + column), column);
        }
        check.taken("card(1, 8)", deck, deck.card(1, 8), 8);
        check.taken("card(1, 9)", deck, deck.card(1, 9), 9);
        deck.pass(0, false);
        deck.pass(0, false);
        check.taken("wear", deck, deck.card(1, 18), 2);
        deck.exchange(0, 1);
        check.taken("place of 0", deck, deck.card(0, 19), 1);
        check.taken("place of 1", deck, deck.card(1, 19), 0);
        check.refused("what -1", deck, deck.card(0, -1), 1);
        check.refused("what 20", deck, deck.card(0, 20), 1);
        check.refused("card 2", deck, deck.card(2, 0), 1);
        check.refused("card -1", deck, deck.card(-1, 17), 1);
    }

    private static void lies() {
        HoleDeck deck = Check.deckOf("2", "1");
        check.refused("below 0", deck, deck.lies(-1), 1);
        check.taken("the first", deck, deck.lies(0), 0);
        check.taken("the last", deck, deck.lies(1), 1);
        check.refused("behind it", deck, deck.lies(2), 6);
        check.refused("far behind it", deck, deck.lies(Integer.MAX_VALUE), 6);
        deck.pass(0, false);
        check.taken("sorted", deck, deck.lies(0), 1);
        Check.punch(deck, "0");
        check.taken("a new one comes to the end", deck, deck.lies(2), 2);
    }

    private static void exchange() {
        HoleDeck deck = Check.deckOf("", "", "", "");
        check.taken("exchange", deck, deck.exchange(3, 1));
        check.lies("exchanged", deck, "0 3 2 1");
        check.taken("exchange", deck, deck.exchange(3, 0));
        check.lies("cards, not places", deck, "3 0 2 1");
        check.refused("one and the same", deck, deck.exchange(2, 2), 1);
        check.refused("no card 4", deck, deck.exchange(4, 0), 1);
        check.refused("no card -1", deck, deck.exchange(0, -1), 1);
        check.lies("nothing changed", deck, "3 0 2 1");
        check.due("no wear of it", deck.card(3, 18), 0);
        check.due("no hours of it", deck.many(3), 0);
    }

    private static void many() {
        HoleDeck deck = Check.deckOf("1", "2", "2");
        Check.book(deck, "code a year 1; code b year 2; mean x holes 1;");
        deck.pass(0, false);
        check.taken("cards", deck, deck.many(0), 3);
        check.taken("codes", deck, deck.many(1), 2);
        check.taken("means", deck, deck.many(2), 1);
        check.taken("minutes", deck, deck.many(3), 13);
        check.refused("many(4)", deck, deck.many(4), 1);
        check.refused("many(-1)", deck, deck.many(-1), 1);
    }
}
