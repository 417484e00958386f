/** Promises 37 to 45 and 3, 4: meanings, jams, habits, marks. */
public final class MeaningsTest {
    private static final Check check = new Check();
    private static final String BOOK = "code a year 1;mean m holes 1;mean n holes 2;mean u holes 11;"
        + "code b year 2;mean o holes 1;mean p holes 11 3;code c year 3;join m o;join n o;join u p;join o m;";

    public static void main(String[] args) {
        meaning();
        joined();
        count();
        meant();
        anew();
        list();
        habit();
        marks();
        backTakesAll();
        backOfManyCards();
        backLeavesTheRest();
        check.end();
    }

    private static HoleDeck withBook(String... cards) {
        HoleDeck deck = Check.deckOf(cards);
        Check.book(deck, BOOK);
        return deck;
    }

    private static void meaning() {
        HoleDeck deck = withBook("1", "2");
        deck.holes(0, 7, 1024 + 8);
        check.taken("by a", deck, deck.meaning(0, 0, 0), 0);
        check.taken("by b", deck, deck.meaning(0, 0, 1), 3);
        check.refused("by c", deck, deck.meaning(0, 0, 2), 6);
        check.taken("with a zone", deck, deck.meaning(0, 7, 1), 4);
        check.refused("not by a", deck, deck.meaning(0, 7, 0), 6);
        deck.holes(0, 7, 8);
        check.refused("without its zone", deck, deck.meaning(0, 7, 1), 6);
        check.refused("blank", deck, deck.meaning(1, 3, 0), 6);
        check.refused("card 2", deck, deck.meaning(2, 0, 0), 1);
        check.refused("card -1", deck, deck.meaning(-1, 0, 0), 1);
        check.refused("column 8", deck, deck.meaning(0, 8, 0), 1);
        check.refused("code 3", deck, deck.meaning(0, 0, 3), 1);
        check.refused("code -1", deck, deck.meaning(0, 0, -1), 1);
    }

    private static void joined() {
        HoleDeck deck = withBook();
        check.taken("m in b", deck, deck.joined(0, 1), 3);
        check.taken("n in b", deck, deck.joined(1, 1), 3);
        check.taken("o in a", deck, deck.joined(3, 0), 0);
        check.refused("p in a", deck, deck.joined(4, 0), 6);
        check.refused("m in c", deck, deck.joined(0, 2), 6);
        check.taken("in its own code", deck, deck.joined(1, 0), 1);
        check.refused("mean 5", deck, deck.joined(5, 0), 1);
        check.refused("mean -1", deck, deck.joined(-1, 0), 1);
        check.refused("code 3", deck, deck.joined(0, 3), 1);
        check.refused("code -1", deck, deck.joined(0, -1), 1);
    }

    private static void count() {
        HoleDeck deck = withBook("1", "1", "2", "x");
        deck.holes(3, 0, 1024);
        check.taken("m", deck, deck.count(0, 0), 2);
        check.taken("n", deck, deck.count(1, 0), 1);
        check.taken("u", deck, deck.count(2, 0), 1);
        check.taken("o", deck, deck.count(3, 0), 2);
        check.taken("p", deck, deck.count(4, 0), 0);
        check.taken("elsewhere", deck, deck.count(0, 1), 0);
        check.refused("mean 5", deck, deck.count(5, 0), 1);
        check.refused("mean -1", deck, deck.count(-1, 0), 1);
        check.refused("column 8", deck, deck.count(0, 8), 1);
        check.refused("column -1", deck, deck.count(0, -1), 1);
    }

    private static void meant() {
        HoleDeck deck = withBook("1", "1", "2");
        deck.holes(2, 0, 1024 + 8);
        check.taken("m or n: at least", deck, deck.meant(3, 0, 0, 0), 0);
        check.taken("m or n: at most", deck, deck.meant(3, 0, 0, 1), 2);
        check.taken("n: at most", deck, deck.meant(3, 0, 1, 1), 2);
        check.taken("u alone: at least", deck, deck.meant(4, 0, 2, 0), 1);
        check.taken("u alone: at most", deck, deck.meant(4, 0, 2, 1), 1);
        check.taken("not joined: at least", deck, deck.meant(4, 0, 0, 0), 0);
        check.taken("not joined: at most", deck, deck.meant(4, 0, 0, 1), 0);
        check.taken("the other way: m can have been o", deck, deck.meant(0, 0, 3, 0), 2);
        check.taken("u was never p", deck, deck.meant(2, 0, 4, 1), 0);
        check.refused("of one code", deck, deck.meant(0, 0, 1, 0), 1);
        check.refused("one and the same", deck, deck.meant(0, 0, 0, 0), 1);
        check.refused("b 5", deck, deck.meant(5, 0, 0, 0), 1);
        check.refused("b -1", deck, deck.meant(-1, 0, 0, 0), 1);
        check.refused("a 5", deck, deck.meant(0, 0, 5, 0), 1);
        check.refused("a -1", deck, deck.meant(0, 0, -1, 0), 1);
        check.refused("column 8", deck, deck.meant(3, 8, 0, 0), 1);
        check.refused("what 2", deck, deck.meant(3, 0, 0, 2), 1);
        check.refused("what -1", deck, deck.meant(3, 0, 0, -1), 1);
        HoleDeck others = new HoleDeck();
        Check.punch(others, "4");
        Check.book(others, "code a year 1;mean m holes 1;code b year 2;mean n holes 2;code c year 3;mean o holes 4;"
            + "join m o;join n o;");
        check.taken("others of another code don't count", others, others.meant(2, 0, 0, 0), 1);
    }

    private static void anew() {
        HoleDeck deck = Check.deckOf("1", "2");
        check.taken("not worn", deck, deck.anew(0), 0);
        deck.pass(0, false);
        deck.pass(0, false);
        check.taken("its wear was", deck, deck.anew(1), 2);
        check.due("and is", deck.card(1, 18), 0);
        check.due("of the other", deck.card(0, 18), 2);
        check.due("holes are as they were", deck.card(1, 8), 2);
        check.refused("card 2", deck, deck.anew(2), 1);
        check.refused("card -1", deck, deck.anew(-1), 1);
    }

    private static void list() {
        HoleDeck deck = new HoleDeck();
        for (int i = 0; i < 30; i++) {
            Check.punch(deck, "1");
        }
        deck.pass(0, false);
        deck.pass(0, false);
        deck.anew(3);
        check.taken("below the limit", deck, deck.list(5, 3, 0), 0);
        check.taken("above it", deck, deck.list(5, 4, 0), 29);
        check.taken("the set", deck, deck.list(5, 4, 1), (1 << 30) - 1 - 8);
        check.taken("as many as the limit", deck, deck.list(2, 2, 1), (1 << 30) - 1 - 8);
        check.refused("more than the limit", deck, deck.list(2, 3, 0), 6);
        check.taken("none more", deck, deck.list(2, 0, 0), 0);
        check.taken("worn above already", deck, deck.list(1, 0, 0), 29);
        check.taken("20 and 20", deck, deck.list(20, 20, 0), 29);
        check.refused("limit 0", deck, deck.list(0, 0, 0), 1);
        check.refused("limit 21", deck, deck.list(21, 0, 0), 1);
        check.refused("passes -1", deck, deck.list(1, -1, 0), 1);
        check.refused("passes 21", deck, deck.list(20, 21, 0), 1);
        check.refused("what 2", deck, deck.list(1, 1, 2), 1);
        check.refused("what -1", deck, deck.list(1, 1, -1), 1);
        HoleDeck empty = new HoleDeck();
        check.refused("none, of no cards", empty, empty.list(1, 2, 0), 6);
    }

    private static void habit() {
        HoleDeck deck = new HoleDeck();
        check.refused("clerk 2", deck, deck.habit(2), 1);
        check.refused("clerk -1", deck, deck.habit(-1), 1);
        check.refused("punched none", deck, deck.habit(0), 6);
        Check.punch(deck, "1x", 0, 0);
        Check.punch(deck, "xxxxxxxx", 0, 0);
        Check.punch(deck, "12", 0, 0);
        Check.punch(deck, "       x", 0, 0);
        Check.punch(deck, "1", 0, 0);
        Check.punch(deck, "", 0, 0);
        fraction("3 by 6", deck, 0, 1, 2);
        check.refused("clerk 1 none", deck, deck.habit(1), 6);
        check.due("the fraction stays", deck.bottom(), 2);
        Check.punch(deck, "1", 1, 0);
        fraction("0 by 1", deck, 1, 0, 1);
        Check.punch(deck, "1", 1, 0);
        fraction("0 by 2", deck, 1, 0, 1);
        Check.punch(deck, "x", 1, 0);
        fraction("1 by 3", deck, 1, 1, 3);
        deck.holes(6, 3, 1024);
        deck.holes(7, 3, 2048);
        fraction("3 by 3", deck, 1, 1, 1);
    }

    private static void fraction(String what, HoleDeck deck, int clerk, long top, long bottom) {
        check.taken(what, deck, deck.habit(clerk));
        check.due(what + ", top", deck.top(), top);
        check.due(what + ", bottom", deck.bottom(), bottom);
        check.due(what + ", told again", deck.top(), top);
    }

    private static void marks() {
        HoleDeck deck = Check.deckOf("1");
        check.taken("first", deck, deck.mark(), 1);
        Check.punch(deck, "2");
        check.taken("second", deck, deck.mark(), 2);
        Check.punch(deck, "3");
        check.taken("third", deck, deck.mark(), 3);
        Check.punch(deck, "4");
        check.refused("fourth", deck, deck.mark(), 4);
        check.taken("back", deck, deck.back(), 2);
        check.due("three cards", deck.many(0), 3);
        check.taken("back", deck, deck.back(), 1);
        check.due("two cards", deck.many(0), 2);
        check.taken("a mark again", deck, deck.mark(), 2);
        deck.back();
        check.taken("back", deck, deck.back(), 0);
        check.due("one card", deck.many(0), 1);
        check.refused("none left", deck, deck.back(), 6);
    }

    private static void backTakesAll() {
        HoleDeck deck = withBook("2", "1");
        Check.program(deck, "turn;turn;");
        deck.pass(0, false);
        deck.mark();
        deck.holes(0, 0, 512);
        deck.pass(0, false);
        deck.exchange(0, 1);
        deck.anew(1);
        Check.punch(deck, "x", 1, 1);
        Check.book(deck, "code z year 9;");
        Check.program(deck, "turn;");
        check.taken("back", deck, deck.back(), 0);
        check.due("cards", deck.many(0), 2);
        check.due("holes", deck.card(0, 0), 4);
        check.due("what they read", deck.card(0, 8), 2);
        check.lies("the deck", deck, "1 0");
        check.due("wear", deck.card(1, 18), 1);
        check.due("hours", deck.many(3), 12);
        check.due("codes", deck.many(1), 3);
        check.due("means", deck.many(2), 5);
        check.due("year", deck.code(0, 0), 1);
        check.due("joins", deck.joined(3, 0), 0);
        check.due("holes of a mean", deck.mean(4, 1), 1032);
        check.due("the run", deck.run(), 2);
        check.taken("a new card's number", deck, Check.punch(deck, "5"), 2);
        check.due("in no ink", deck.card(2, 17), -1);
    }

    private static void backOfManyCards() {
        HoleDeck deck = new HoleDeck();
        for (int i = 0; i < 30; i++) {
            Check.punch(deck, "" + i % 10 + i / 10, i % 2, i % 3 - 1);
        }
        deck.mark();
        for (int i = 0; i < 30; i++) {
            deck.holes(i, 0, 0);
            deck.holes(i, 7, 4095);
        }
        deck.pass(1, false);
        deck.run();
        deck.back();
        for (int i = 0; i < 30; i++) {
            check.due("what it reads", deck.field(i, 0, 1), i % 10 * 10 + i / 10);
            check.due("its last holes", deck.card(i, 7), 0);
            check.due("its place", deck.lies(i), i);
            check.due("its wear", deck.card(i, 18), 0);
        }
    }

    private static void backLeavesTheRest() {
        HoleDeck deck = Check.deckOf("x", "1");
        Check.fill(deck, 0, 0, 0);
        deck.mark();
        deck.write(0, 0, 1);
        Check.feed(deck, "turn;");
        deck.habit(0);
        deck.plan(0, 1);
        deck.parts(1, 1);
        deck.run();
        deck.back();
        check.due("trays", deck.read(0, 0), 1);
        check.due("the tape", deck.program(5), 1);
        check.due("the fraction", deck.bottom(), 2);
        check.due("the plan", deck.planned(-1), 0);
        check.due("the parted cards", deck.parted(0), 2);
        check.due("the run that was done", deck.ran(2), 0);
    }
}
