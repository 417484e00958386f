/** Promises 20 to 28: passes, plans, sums, pockets, collating, matching. */
public final class PassesTest {
    private static final Check check = new Check();

    public static void main(String[] args) {
        pass();
        passThatStops();
        ordered();
        plan();
        planTies();
        planned();
        field();
        sum();
        pocket();
        collate();
        matched();
        check.end();
    }

    private static void pass() {
        HoleDeck deck = Check.deckOf("x", "9", " ", "0", "9", "x", "0", " ");
        check.taken("hands", deck, deck.pass(0, false), 4);
        check.lies("alike in their order, blank, wrong last", deck, "3 6 1 4 2 7 0 5");
        check.due("minutes", deck.many(3), 8 + 4 * 5);
        check.taken("all blank there", deck, deck.pass(7, false), 1);
        check.lies("as they lay", deck, "3 6 1 4 2 7 0 5");
        check.due("minutes together", deck.many(3), 28 + 13);
        check.due("wear", deck.card(5, 18), 2);
        check.refused("column 8", deck, deck.pass(8, false), 1);
        check.refused("column -1", deck, deck.pass(-1, true), 1);
        check.due("no minutes of it", deck.many(3), 41);
        HoleDeck empty = new HoleDeck();
        check.taken("an empty deck", empty, empty.pass(0, true), 0);
        check.due("takes no time", empty.many(3), 0);
    }

    private static void passThatStops() {
        HoleDeck deck = Check.deckOf("3", "x", "1", " ", "0", " ", "2");
        check.taken("hands", deck, deck.pass(0, true), 4);
        check.lies("behind all others as they lay", deck, "2 0 1 3 4 5 6");
        check.due("minutes", deck.many(3), 3 + 4 * 5);
        check.due("wear of one that went", deck.card(1, 18), 1);
        check.due("wear of one that did not", deck.card(3, 18), 0);
        check.due("wear of one behind it", deck.card(6, 18), 0);
        deck.exchange(2, 3);
        check.taken("the first is blank", deck, deck.pass(0, true), 1);
        check.lies("nothing went", deck, "3 0 1 2 4 5 6");
        check.due("minutes of a hand", deck.many(3), 23 + 5);
        HoleDeck full = Check.deckOf("2", "1", "x");
        check.taken("without a blank", full, full.pass(0, true), 3);
        check.lies("all went", full, "1 0 2");
        check.due("minutes", full.many(3), 18);
    }

    private static void ordered() {
        HoleDeck deck = Check.deckOf("08", "14", "21", "33", "4 ", "70", "96", " 1", "x2");
        Check.fill(deck, 0, 0, 0, 1, 2, 3, 4);
        check.taken("by column 0", deck, deck.ordered(0, 1), 1);
        check.taken("the first that differ", deck, deck.ordered(0, 2), 1);
        Check.fill(deck, 0, 0, 1);
        check.taken("by column 1", deck, deck.ordered(0, 1), 0);
        Check.fill(deck, 0, 0, 8, 16);
        check.taken("by fives", deck, deck.ordered(0, 1), 1);
        check.taken("by fives, then by two", deck, deck.ordered(0, 2), 0);
        HoleDeck twos = Check.deckOf("8", "4", "1", "9", "x", " ", "x");
        Check.fill(twos, 0, 0, 16, 8);
        check.taken("by two: blank and wrong are 2", twos, twos.ordered(0, 1), 1);
        check.taken("8 and 4 by fives within", twos, twos.ordered(0, 2), 0);
        twos.exchange(0, 1);
        check.taken("exchanged", twos, twos.ordered(0, 2), 1);
        Check.fill(twos, 0, 0, 0);
        check.taken("by what they read", twos, twos.ordered(0, 1), 0);
        HoleDeck wrong = new HoleDeck();
        check.refused("tray 4", wrong, wrong.ordered(4, 1), 1);
        check.refused("tray -1", wrong, wrong.ordered(-1, 1), 1);
        check.refused("no items", wrong, wrong.ordered(0, 0), 1);
        check.refused("five items", wrong, wrong.ordered(0, 5), 1);
        check.refused("missing", wrong, wrong.ordered(0, 1), 2);
        Check.fill(wrong, 0, 3, 23, 24, -1, 1L << 40);
        check.taken("item 23, an empty deck", wrong, wrong.ordered(0, 1), 1);
        check.refused("item 24", wrong, wrong.ordered(0, 2), 5);
        Check.fill(wrong, 0, 3, 1, -1);
        check.refused("item -1", wrong, wrong.ordered(0, 2), 5);
        Check.fill(wrong, 0, 3, 1L << 40);
        check.refused("a long item", wrong, wrong.ordered(0, 1), 5);
        check.refused("too few ahead of the item", wrong, wrong.ordered(0, 2), 3);
    }

    private static void plan() {
        HoleDeck deck = Check.deckOf("3120", "1203", "2011", "1132", "0000");
        Check.fill(deck, 0, 0, 2, 0, 3, 1);
        check.taken("one pass", deck, deck.plan(0, 1), 1);
        check.due("by column 2", deck.planned(0), 2);
        check.taken("two items", deck, deck.plan(0, 2), 2);
        check.due("the lesser item first", deck.planned(0), 0);
        check.due("the greater item last", deck.planned(1), 2);
        check.due("hands together", deck.planned(-1), 4 + 4);
        check.lies("nothing went through", deck, "0 1 2 3 4");
        check.due("no wear", deck.card(0, 18), 0);
        check.due("no hours", deck.many(3), 0);
        HoleDeck fives = Check.deckOf("9", "5", "4", "1");
        Check.fill(fives, 0, 0, 8, 16);
        check.taken("by fives: a plain pass does", fives, fives.plan(0, 1), 1);
        check.refused("5 and 9 are both odd, but 1 and 4 never come so", fives, fives.plan(0, 2), 6);
        check.due("the plan ahead stays", fives.planned(-1), 4);
        check.refused("tray 4", fives, fives.plan(4, 1), 1);
        check.refused("no items", fives, fives.plan(0, 0), 1);
        check.refused("five items", fives, fives.plan(0, 5), 1);
        check.refused("missing", fives, fives.plan(1, 1), 2);
        check.refused("too few", fives, fives.plan(0, 3), 3);
        fives.write(0, 1, 24);
        check.refused("item 24", fives, fives.plan(0, 2), 5);
        HoleDeck empty = new HoleDeck();
        Check.fill(empty, 0, 0, 0);
        check.taken("an empty deck", empty, empty.plan(0, 1), 0);
    }

    /** Two passes of either column alone bring the deck in order: the fewer hands win, then the lesser column. */
    private static void planTies() {
        HoleDeck deck = Check.deckOf("1  3", "0  1", "2  4");
        Check.fill(deck, 0, 0, 3, 0);
        check.taken("plan", deck, deck.plan(0, 2), 1);
        check.due("like hands: the first column", deck.planned(0), 0);
        HoleDeck fewer = Check.deckOf("5  1", "4  0", "6  1");
        Check.fill(fewer, 0, 0, 0, 3);
        check.taken("plan", fewer, fewer.plan(0, 2), 1);
        check.due("fewer hands: column 3", fewer.planned(0), 3);
        check.due("two hands", fewer.planned(-1), 2);
    }

    private static void planned() {
        HoleDeck deck = Check.deckOf("1", "0");
        check.refused("ahead of any plan", deck, deck.planned(0), 6);
        check.refused("hands ahead of any", deck, deck.planned(-1), 6);
        check.refused("below NONE", deck, deck.planned(-2), 1);
        Check.fill(deck, 0, 0, 0);
        deck.plan(0, 1);
        check.taken("the pass", deck, deck.planned(0), 0);
        check.refused("behind it", deck, deck.planned(1), 6);
        check.refused("far behind it", deck, deck.planned(Integer.MAX_VALUE), 6);
        deck.pass(0, false);
        deck.plan(0, 1);
        check.refused("no pass", deck, deck.planned(0), 6);
        check.taken("no hands", deck, deck.planned(-1), 0);
    }

    private static void field() {
        HoleDeck deck = Check.deckOf("12345678", " 1 2    ", "1x3");
        check.taken("six columns", deck, deck.field(0, 2, 7), 345678);
        check.taken("one column", deck, deck.field(0, 7, 7), 8);
        check.taken("blanks are 0", deck, deck.field(1, 0, 3), 102);
        check.taken("blanks at the end", deck, deck.field(1, 1, 4), 1020);
        check.refused("a wrong one", deck, deck.field(2, 0, 2), 6);
        check.taken("beside the wrong one", deck, deck.field(2, 2, 2), 3);
        check.refused("seven columns", deck, deck.field(0, 0, 6), 1);
        check.refused("b below a", deck, deck.field(0, 3, 2), 1);
        check.refused("column 8", deck, deck.field(0, 7, 8), 1);
        check.refused("column -1", deck, deck.field(0, -1, 2), 1);
        check.refused("card 3", deck, deck.field(3, 0, 0), 1);
        check.refused("card -1", deck, deck.field(-1, 0, 0), 1);
    }

    private static void sum() {
        HoleDeck deck = new HoleDeck();
        for (int i = 0; i < 30; i++) {
            Check.punch(deck, "99999999");
        }
        check.taken("the greatest", deck, deck.sum(0, 5, 9, 0), 29999970);
        check.taken("runs of nine places", deck, deck.sum(0, 5, 9, 1), 0);
        check.taken("one place", deck, deck.sum(0, 5, 1, 0), 0);
        check.taken("runs of one place", deck, deck.sum(0, 5, 1, 1), 2999997);
        check.taken("three places", deck, deck.sum(0, 5, 3, 0), 970);
        check.taken("runs of three places", deck, deck.sum(0, 5, 3, 1), 29999);
        deck.holes(3, 4, 3);
        check.taken("one that is none counts as 0", deck, deck.sum(0, 5, 9, 0), 29999970 - 999999);
        check.refused("places 0", deck, deck.sum(0, 5, 0, 0), 1);
        check.refused("places 10", deck, deck.sum(0, 5, 10, 0), 1);
        check.refused("what 2", deck, deck.sum(0, 5, 1, 2), 1);
        check.refused("what -1", deck, deck.sum(0, 5, 1, -1), 1);
        check.refused("seven columns", deck, deck.sum(0, 6, 1, 0), 1);
        check.refused("b below a", deck, deck.sum(1, 0, 1, 0), 1);
        HoleDeck empty = new HoleDeck();
        check.taken("an empty deck", empty, empty.sum(0, 0, 1, 0), 0);
    }

    private static void pocket() {
        HoleDeck deck = Check.deckOf("112", "120", "2 9", " x5", "1x7", "x11");
        check.taken("how many read 1", deck, deck.pocket(0, 1, 1, 2, 0), 3);
        check.taken("their sum, one is none", deck, deck.pocket(0, 1, 1, 2, 1), 32);
        check.taken("none reads 0", deck, deck.pocket(0, 0, 1, 2, 0), 0);
        check.taken("one reads 0", deck, deck.pocket(2, 0, 1, 2, 0), 1);
        check.taken("the sum of it", deck, deck.pocket(2, 0, 1, 2, 1), 20);
        check.taken("blank", deck, deck.pocket(0, 10, 2, 2, 0), 1);
        check.taken("sum of the blank", deck, deck.pocket(0, 10, 2, 2, 1), 5);
        check.taken("wrong", deck, deck.pocket(1, 11, 2, 2, 0), 2);
        check.taken("sum of the wrong", deck, deck.pocket(1, 11, 2, 2, 1), 12);
        check.taken("none reads 9", deck, deck.pocket(0, 9, 0, 0, 1), 0);
        check.refused("reads 12", deck, deck.pocket(0, 12, 0, 0, 0), 1);
        check.refused("reads -1", deck, deck.pocket(0, -1, 0, 0, 0), 1);
        check.refused("column 8", deck, deck.pocket(8, 0, 0, 0, 0), 1);
        check.refused("b below a", deck, deck.pocket(0, 0, 1, 0, 0), 1);
        check.refused("what 2", deck, deck.pocket(0, 0, 0, 0, 2), 1);
        check.refused("what -1", deck, deck.pocket(0, 0, 0, 0, -1), 1);
    }

    private static void collate() {
        HoleDeck deck = new HoleDeck();
        Check.punch(deck, "5", 0, 1);
        Check.punch(deck, "7", 0, -1);
        Check.punch(deck, "6", 0, 0);
        Check.punch(deck, "x", 0, 0);
        Check.punch(deck, "2", 0, 0);
        Check.punch(deck, "6", 0, 1);
        Check.punch(deck, "1", 0, -1);
        Check.punch(deck, "9", 0, 0);
        Check.punch(deck, "x", 0, 1);
        check.taken("how many behind", deck, deck.collate(0, 0), 4);
        check.lies("the lesser of the first ones, of like ones ink 0", deck, "0 2 4 5 7 1 3 6 8");
        check.due("no wear", deck.card(0, 18), 0);
        check.due("no hours", deck.many(3), 0);
        check.refused("seven columns", deck, deck.collate(1, 7), 1);
        check.refused("b below a", deck, deck.collate(1, 0), 1);
        HoleDeck one = new HoleDeck();
        Check.punch(one, "5", 0, 1);
        Check.punch(one, "3", 0, 1);
        check.taken("one ink alone", one, one.collate(0, 1), 0);
        check.lies("as they lay", one, "0 1");
        HoleDeck empty = new HoleDeck();
        check.taken("an empty deck", empty, empty.collate(0, 0), 0);
    }

    private static void matched() {
        HoleDeck deck = new HoleDeck();
        int[] inks = {0, 0, 0, 1, 1, 1, 1, -1, 0, 1, 0};
        String[] reads = {"1", "1", "2", "1", "3", "4", "3", "2", "x", "x", " "};
        for (int i = 0; i < inks.length; i++) {
            Check.punch(deck, reads[i], 0, inks[i]);
        }
        check.taken("both", deck, deck.matched(0, 0, 0), 1);
        check.taken("ink 0 alone", deck, deck.matched(0, 0, 1), 2);
        check.taken("ink 1 alone", deck, deck.matched(0, 0, 2), 2);
        check.refused("what 3", deck, deck.matched(0, 0, 3), 1);
        check.refused("what -1", deck, deck.matched(0, 0, -1), 1);
        check.refused("b below a", deck, deck.matched(2, 1, 0), 1);
        check.refused("seven columns", deck, deck.matched(0, 6, 0), 1);
    }
}
