/** Promises 32 to 36: misreads, parted decks, lost cards. */
public final class FindsTest {
    private static final Check check = new Check();

    public static void main(String[] args) {
        fewest();
        kinds();
        twoMisreads();
        thirtyCards();
        misread();
        parts();
        parted();
        lost();
        check.end();
    }

    /** Twelve counts of the told readings, and their sum, in tray 0. */
    private static void tell(HoleDeck deck, int... reads) {
        Check.fill(deck, 0, 3, Check.tellings(reads));
    }

    private static void fewest() {
        HoleDeck deck = Check.deckOf("5", "5");
        check.refused("column 8", deck, deck.fewest(8, 0), 1);
        check.refused("column -1", deck, deck.fewest(-1, 0), 1);
        check.refused("tray 4", deck, deck.fewest(0, 4), 1);
        check.refused("tray -1", deck, deck.fewest(0, -1), 1);
        check.refused("missing", deck, deck.fewest(0, 0), 2);
        deck.tray(0, 3, 12);
        check.refused("twelve numbers", deck, deck.fewest(0, 0), 3);
        tell(deck, 5, 5);
        check.taken("as it reads", deck, deck.fewest(0, 0), 0);
        deck.write(0, 12, 11);
        check.refused("the sum is another one", deck, deck.fewest(0, 0), 6);
        deck.write(0, 12, 10 + (1L << 32));
        check.refused("all bits of it count", deck, deck.fewest(0, 0), 6);
        tell(deck, 4, 5);
        deck.write(0, 5, -1);
        check.refused("a count below 0", deck, deck.fewest(0, 0), 6);
        HoleDeck empty = new HoleDeck();
        tell(empty);
        check.taken("an empty deck", empty, empty.fewest(7, 0), 0);
        tell(empty, 10);
        check.refused("a card too many", empty, empty.fewest(7, 0), 6);
        HoleDeck one = Check.deckOf("5");
        tell(one);
        check.refused("one card is never double", one, one.fewest(0, 0), 6);
        tell(one, 4);
        check.taken("it may be worn", one, one.fewest(0, 0), 1);
        tell(one, 10);
        check.taken("it may be off", one, one.fewest(0, 0), 1);
        HoleDeck three = Check.deckOf("5", "5", "5");
        tell(three, 4, 4, 4);
        check.refused("not with two", three, three.fewest(0, 0), 6);
    }

    private static void kinds() {
        HoleDeck deck = Check.deckOf("0", " 7", "x8");
        first("0 worn is 9", deck, 0, 0, 0, 9, 10, 11);
        first("a blank one off", deck, 0, 1, 1, 0, 7, 11);
        first("a wrong one off", deck, 0, 2, 1, 0, 10, 8);
        first("the blank one double", deck, 0, 1, 2, 0, 11);
        first("the wrong one double", deck, 0, 2, 2, 0, 10);
        tell(deck, 10, 11);
        check.taken("the first can't be double", deck, deck.fewest(0, 0), 2);
        deck.exchange(0, 2);
        first("the first of the deck, not card 0", deck, 0, 0, 2, 10, 11);
        HoleDeck last = Check.deckOf("       3", "       3");
        tell(last, 3, 10);
        check.refused("column 7 is never off", last, last.fewest(7, 0), 6);
        HoleDeck both = Check.deckOf("54", "54");
        tell(both, 4, 5);
        check.taken("worn or off", both, both.fewest(0, 0), 1);
        check.due("four sets", both.misread(0), 4);
        check.due("the first card", both.misread(1), 0);
        check.due("the lesser kind", both.misread(2), 0);
    }

    private static void first(String what, HoleDeck deck, int column, int card, int kind, int... reads) {
        tell(deck, reads);
        check.taken(what, deck, deck.fewest(column, 0), 1);
        check.due(what + ", sets", deck.misread(0), 1);
        check.due(what + ", card", deck.misread(1), card);
        check.due(what + ", kind", deck.misread(2), kind);
        check.refused(what + ", no second", deck, deck.misread(3), 6);
    }

    private static void twoMisreads() {
        HoleDeck deck = Check.deckOf("28", "59", "5x");
        tell(deck, 8, 4, 5);
        check.taken("off and worn", deck, deck.fewest(0, 0), 2);
        check.due("two sets", deck.misread(0), 2);
        check.due("first card", deck.misread(1), 0);
        check.due("its kind", deck.misread(2), 1);
        check.due("second card", deck.misread(3), 1);
        check.due("its kind", deck.misread(4), 0);
        tell(deck, 2);
        check.taken("both behind double", deck, deck.fewest(0, 0), 2);
        check.due("one set", deck.misread(0), 1);
        check.due("first card", deck.misread(1), 1);
        check.due("its kind", deck.misread(2), 2);
        check.due("second card", deck.misread(3), 2);
        check.due("its kind", deck.misread(4), 2);
        deck.exchange(0, 2);
        tell(deck, 5);
        check.taken("by cards, not places", deck, deck.fewest(0, 0), 2);
        check.due("first card", deck.misread(1), 0);
        check.due("second card", deck.misread(3), 1);
        tell(deck, 5, 4);
        check.taken("double and worn", deck, deck.fewest(0, 0), 2);
        check.due("sets", deck.misread(0), 2);
        check.due("first card", deck.misread(1), 0);
        check.due("its kind", deck.misread(2), 2);
        check.due("second card", deck.misread(3), 1);
        check.due("its kind", deck.misread(4), 0);
    }

    private static void thirtyCards() {
        HoleDeck deck = new HoleDeck();
        int[] reads = new int[30];
        for (int i = 0; i < 30; i++) {
            Check.punch(deck, "5");
            reads[i] = 5;
        }
        tell(deck, reads);
        check.taken("as they read", deck, deck.fewest(0, 0), 0);
        reads[3] = 4;
        reads[4] = 10;
        tell(deck, reads);
        check.taken("one worn, one off", deck, deck.fewest(0, 0), 2);
        check.due("any of them", deck.misread(0), 30 * 29);
        check.due("first kind", deck.misread(2), 0);
        check.due("second card", deck.misread(3), 1);
        check.due("second kind", deck.misread(4), 1);
        reads[5] = 3;
        tell(deck, reads);
        check.refused("not with two", deck, deck.fewest(0, 0), 6);
        check.due("the last one stays", deck.misread(0), 870);
    }

    private static void misread() {
        HoleDeck deck = Check.deckOf("5", "5");
        check.refused("ahead of any", deck, deck.misread(0), 6);
        check.refused("what -1", deck, deck.misread(-1), 1);
        check.refused("what 5", deck, deck.misread(5), 1);
        tell(deck, 4, 5);
        deck.fewest(0, 0);
        tell(deck, 1, 1);
        deck.fewest(0, 0);
        check.taken("of the latest with status 0", deck, deck.misread(0), 2);
        tell(deck, 5, 5);
        deck.fewest(0, 0);
        check.taken("one set, with nothing in it", deck, deck.misread(0), 1);
        check.refused("no card", deck, deck.misread(1), 6);
        check.refused("no kind", deck, deck.misread(4), 6);
    }

    private static void parts() {
        HoleDeck deck = new HoleDeck();
        check.taken("an empty deck", deck, deck.parts(0, 0), 1);
        check.refused("b below a", deck, deck.parts(1, 0), 1);
        check.refused("seven columns", deck, deck.parts(0, 6), 1);
        for (int i = 0; i < 30; i++) {
            Check.punch(deck, i / 10 + "" + i % 10);
        }
        check.taken("thirty that rise", deck, deck.parts(0, 1), 1 << 30);
        check.taken("tens alone: three alike", deck, deck.parts(0, 0), 0);
        deck.holes(29, 1, 3);
        check.taken("a field that is none", deck, deck.parts(0, 1), 0);
        HoleDeck alike = Check.deckOf("1", "1");
        check.taken("strictly", alike, alike.parts(0, 0), 2);
        HoleDeck falls = Check.deckOf("3", "2", "1");
        check.taken("three that fall", falls, falls.parts(0, 0), 0);
        HoleDeck inked = new HoleDeck();
        Check.punch(inked, "2", 0, 0);
        Check.punch(inked, "1", 0, 0);
        check.taken("both in ink 0", inked, inked.parts(0, 0), 0);
        HoleDeck mixed = new HoleDeck();
        Check.punch(mixed, "2", 0, 1);
        Check.punch(mixed, "1", 0, -1);
        Check.punch(mixed, "3", 0, -1);
        check.taken("one in ink 1", mixed, mixed.parts(0, 0), 2);
    }

    private static void parted() {
        HoleDeck deck = new HoleDeck();
        check.refused("ahead of any, no card", deck, deck.parted(-1), 6);
        Check.punch(deck, "2", 0, 1);
        Check.punch(deck, "1", 0, -1);
        Check.punch(deck, "3", 0, -1);
        Check.punch(deck, "3", 0, 0);
        Check.punch(deck, "4", 0, -1);
        check.taken("parts", deck, deck.parts(0, 0), 2);
        check.taken("in ink 1", deck, deck.parted(0), 1);
        check.taken("sure of 0", deck, deck.parted(1), 0);
        check.taken("sure of 1", deck, deck.parted(2), 1);
        check.taken("in ink 0", deck, deck.parted(3), 0);
        check.taken("open", deck, deck.parted(4), 2);
        check.refused("no card -1", deck, deck.parted(-1), 1);
        check.refused("no card 5", deck, deck.parted(5), 1);
        Check.punch(deck, "5");
        check.refused("no card 5 then", deck, deck.parted(5), 1);
        deck.parts(3, 2);
        check.taken("a refused call leaves it", deck, deck.parted(1), 0);
        deck.holes(0, 0, 3);
        deck.parts(0, 0);
        check.refused("no way", deck, deck.parted(0), 6);
        check.refused("no way comes first", deck, deck.parted(77), 6);
    }

    private static void lost() {
        HoleDeck deck = Check.deckOf("123", "456", "9x9");
        check.taken("579 and one to 600", deck, deck.lost(0, 2, 9, 600, 0), 1);
        check.taken("that one", deck, deck.lost(0, 2, 9, 600, 1), 21);
        check.taken("less than the sum", deck, deck.lost(0, 2, 9, 578, 0), 0);
        check.refused("none", deck, deck.lost(0, 2, 9, 578, 1), 6);
        check.taken("on two places", deck, deck.lost(0, 2, 2, 78, 0), 10);
        check.taken("the least", deck, deck.lost(0, 2, 2, 78, 1), 99);
        check.taken("as many as there are numbers: none", deck, deck.lost(0, 2, 9, 579 + 1000, 0), 0);
        check.taken("one less", deck, deck.lost(0, 2, 9, 579 + 999, 0), 1);
        check.taken("just the sum", deck, deck.lost(0, 2, 2, 79, 1), 0);
        check.taken("on three places", deck, deck.lost(0, 2, 3, 578, 1), 999);
        check.taken("the greatest told", deck, deck.lost(0, 2, 9, 999999999, 0), 0);
        check.taken("six columns", deck, deck.lost(2, 7, 1, 0, 0), 100000);
        check.refused("as the wheel has", deck, deck.lost(0, 2, 2, 100, 0), 1);
        check.refused("above all", deck, deck.lost(0, 2, 9, 1000000000, 0), 1);
        check.refused("below 0", deck, deck.lost(0, 2, 2, -1, 0), 1);
        check.refused("places 0", deck, deck.lost(0, 2, 0, 0, 0), 1);
        check.refused("places 10", deck, deck.lost(0, 2, 10, 0, 0), 1);
        check.refused("b below a", deck, deck.lost(2, 0, 2, 0, 0), 1);
        check.refused("what 2", deck, deck.lost(0, 2, 2, 0, 2), 1);
        check.refused("what -1", deck, deck.lost(0, 2, 2, 0, -1), 1);
    }
}
