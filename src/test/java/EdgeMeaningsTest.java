/** Promises 37 to 45, with 3 and 4, at their edges: each sentence has a test of its own. */
public final class EdgeMeaningsTest {
    private static final Check check = new Check();
    private static final Twins twins = new Twins(check);
    private static final int LEAST = Integer.MIN_VALUE;
    private static final int MOST = Integer.MAX_VALUE;

    public static void main(String[] args) {
        argumentsOfMeaning();
        justTheHoles();
        noMeaning();
        argumentsOfJoined();
        joinedWithinItsCode();
        joinedOneWay();
        argumentsOfCount();
        countOfNoneAndAll();
        argumentsOfMeant();
        meantOfOneCode();
        meantAlone();
        meantWithOthers();
        meantNotJoined();
        meantOfNoCards();
        anewAtItsEnds();
        limitsOfAList();
        passesOfAList();
        jamsAboveTheLimit();
        listOfNone();
        listOfThirty();
        listThatIsNot();
        clerksOfHabit();
        habitOfNone();
        habitOfAll();
        fractionsWithoutADivisor();
        anyWrongColumn();
        threeMarks();
        marksOfNothing();
        backToEachMark();
        backTakesBack();
        backToMoreCards();
        backLeaves();
        backWithoutMarks();
        markIsGone();
        lastCalls();
        check.end();
    }

    // ---- MEANINGS

    /** meaning(): CARDS, COLUMNS 0 to 7, CODES there are. */
    private static void argumentsOfMeaning() {
        Twins.Make make = deck -> {
            Twins.rich(deck);
            for (int card = 0; card < 5; card++) {
                deck.holes(card, 0, 2050);
            }
            deck.holes(1, 7, 2050);
            deck.book(0);
            Check.book(deck, "code a year 1;mean m holes 1 12;code b year 1;mean n holes 1 12;");
        };
        twins.span("meaning of CARD", make, 0, 4, (deck, card) -> deck.meaning(card, 0, 0));
        twins.span("meaning of COLUMN", make, 0, 7, (deck, column) -> deck.meaning(1, column, 0));
        twins.span("meaning by CODE", make, 0, 1, (deck, code) -> deck.meaning(1, 0, code));
    }

    /** "the MEAN of that CODE whose HOLES are just those of the COLUMN". */
    private static void justTheHoles() {
        HoleDeck deck = Check.deckOf("");
        Check.book(deck, "code a year 1;mean m holes 0 1 2 3 4 5 6 7 8 9 11 12;mean n holes 12;mean o holes 0;"
            + "code b year 2;mean p holes 0;mean q holes 0 12;");
        deck.holes(0, 7, 4095);
        check.taken("all twelve", deck, deck.meaning(0, 7, 0), 0);
        deck.holes(0, 7, 4094);
        check.refused("one less", deck, deck.meaning(0, 7, 0), 6);
        deck.holes(0, 7, 2048);
        check.taken("a ZONE alone", deck, deck.meaning(0, 7, 0), 1);
        check.refused("not by the other CODE", deck, deck.meaning(0, 7, 1), 6);
        deck.holes(0, 7, 1);
        check.taken("HOLE 0 by a", deck, deck.meaning(0, 7, 0), 2);
        check.taken("HOLE 0 by b", deck, deck.meaning(0, 7, 1), 3);
        deck.holes(0, 7, 2049);
        check.refused("HOLE 0 and a ZONE by a", deck, deck.meaning(0, 7, 0), 6);
        check.taken("HOLE 0 and a ZONE by b", deck, deck.meaning(0, 7, 1), 4);
    }

    /** "(none, if there is none such)" (6). */
    private static void noMeaning() {
        twins.refused("no MEAN with these HOLES", Twins::rich, deck -> deck.meaning(0, 0, 0), 6);
        twins.refused("a CODE without MEANS", Twins::rich, deck -> deck.meaning(0, 0, 2), 6);
        HoleDeck deck = Check.deckOf("");
        check.refused("no CODE at all", deck, deck.meaning(0, 0, 0), 1);
        Check.book(deck, "code a year 1;mean m holes 0;");
        check.refused("BLANK means nothing", deck, deck.meaning(0, 0, 0), 6);
        check.refused("1 ahead of 6", deck, deck.meaning(0, 8, 0), 1);
    }

    /** joined(): MEANS and CODES there are. */
    private static void argumentsOfJoined() {
        Twins.Make make = deck -> {
            Twins.rich(deck);
            deck.book(0);
            Check.book(deck, "code a year 1;mean m holes 1;code b year 1;mean n holes 1;join m n;join n m;");
        };
        twins.span("joined of MEAN", make, 0, 1, (deck, mean) -> deck.joined(mean, 0));
        twins.span("joined in CODE", make, 0, 1, (deck, code) -> deck.joined(0, code));
        twins.refused("not joined", Twins::rich, deck -> deck.joined(1, 1), 6);
        twins.refused("in a CODE without MEANS", Twins::rich, deck -> deck.joined(0, 2), 6);
        HoleDeck deck = new HoleDeck();
        check.refused("no BOOK", deck, deck.joined(0, 0), 1);
    }

    /** "of one of that CODE itself it is that one". */
    private static void joinedWithinItsCode() {
        HoleDeck deck = new HoleDeck();
        Check.book(deck, "code a year 1;mean m holes 1;mean n holes 2;code b year 2;mean o holes 1;join o m;join n o;");
        check.taken("m in a", deck, deck.joined(0, 0), 0);
        check.taken("n in a, though joined to another CODE", deck, deck.joined(1, 0), 1);
        check.taken("o in b, though joined to another CODE", deck, deck.joined(2, 1), 2);
    }

    /** "the MEAN of that one to which it is joined": not the other way, nor by a third. */
    private static void joinedOneWay() {
        HoleDeck deck = new HoleDeck();
        Check.book(deck, "code a year 1;mean m holes 1;code b year 2;mean n holes 1;code c year 3;mean o holes 1;"
            + "join m n;join n o;");
        check.taken("m in b", deck, deck.joined(0, 1), 1);
        check.taken("n in c", deck, deck.joined(1, 2), 2);
        check.refused("not m in c", deck, deck.joined(0, 2), 6);
        check.refused("not n in a", deck, deck.joined(1, 0), 6);
        check.refused("not o in b", deck, deck.joined(2, 1), 6);
    }

    private static void argumentsOfCount() {
        twins.span("count of MEAN", Twins::rich, 0, 2, (deck, mean) -> deck.count(mean, 0));
        twins.span("count in COLUMN", Twins::rich, 0, 7, (deck, column) -> deck.count(0, column));
        HoleDeck deck = Check.deckOf("1");
        check.refused("no BOOK", deck, deck.count(0, 0), 1);
    }

    /** "COUNT of a MEAN in a COLUMN: how many CARDS mean it". */
    private static void countOfNoneAndAll() {
        HoleDeck deck = new HoleDeck();
        Check.book(deck, "code a year 1;mean m holes 1 12;mean n holes 2;");
        check.taken("no CARDS", deck, deck.count(0, 0), 0);
        Check.fill(deck, 0, 1, 2050, 0, 0, 0, 0, 0, 0, 4);
        for (int card = 0; card < 30; card++) {
            deck.punch(0, 0, -1);
        }
        check.taken("all thirty", deck, deck.count(0, 0), 30);
        check.taken("all thirty in the last COLUMN", deck, deck.count(1, 7), 30);
        check.taken("none in another COLUMN", deck, deck.count(0, 7), 0);
        deck.holes(29, 0, 2);
        check.taken("one without its ZONE", deck, deck.count(0, 0), 29);
    }

    private static void argumentsOfMeant() {
        Twins.Make make = deck -> {
            Twins.rich(deck);
            deck.book(0);
            Check.book(deck, "code a year 1;mean m holes 1;mean n holes 2;code b year 1;mean o holes 1;mean p holes 2;"
                + "code c year 3;mean q holes 3;");
        };
        // MEANS 2 to 4 are of other CODES than MEAN 0
        twins.span("meant what", make, 0, 1, (deck, what) -> deck.meant(2, 0, 0, what));
        twins.span("meant in COLUMN", make, 0, 7, (deck, column) -> deck.meant(2, column, 0, 0));
        for (int mean : new int[] {-1, 5, LEAST, MOST}) {
            twins.refused("meant of b " + mean, make, deck -> deck.meant(mean, 0, 0, 0), 1);
            twins.refused("meant of a " + mean, make, deck -> deck.meant(0, 0, mean, 0), 1);
        }
        HoleDeck deck = new HoleDeck();
        make.make(deck);
        check.taken("the last MEAN as b", deck, deck.meant(4, 0, 0, 0), 0);
        check.taken("the last MEAN as a", deck, deck.meant(0, 0, 4, 0), 0);
    }

    /** meant(): "(1: a and b of one CODE, too)". */
    private static void meantOfOneCode() {
        twins.refused("two of CODE 0", Twins::rich, deck -> deck.meant(0, 0, 1, 0), 1);
        twins.refused("two of CODE 0", Twins::rich, deck -> deck.meant(1, 0, 0, 1), 1);
        twins.refused("one and the same", Twins::rich, deck -> deck.meant(2, 0, 2, 1), 1);
    }

    private static HoleDeck meaning(String book) {
        HoleDeck deck = Check.deckOf("3", "3", "3", "4");
        Check.book(deck, book);
        return deck;
    }

    private static void meant(HoleDeck deck, int b, int a, int least, int most) {
        check.taken("the least of " + a + " in " + b, deck, deck.meant(b, 0, a, 0), least);
        check.taken("the most of " + a + " in " + b, deck, deck.meant(b, 0, a, 1), most);
    }

    private static final String TWO = "code a year 1;mean m holes 1;mean n holes 2;code b year 2;mean o holes 3;"
        + "code c year 3;mean p holes 5;";

    /** "all, if a alone (of its CODE) is joined to b". */
    private static void meantAlone() {
        HoleDeck deck = meaning(TWO + "join m o;");
        meant(deck, 2, 0, 3, 3);
        deck = meaning(TWO + "join m o;join p o;");
        // one of another CODE does not make a less alone
        meant(deck, 2, 0, 3, 3);
        meant(deck, 2, 3, 3, 3);
    }

    /** "at least none, at most all, if others of a's CODE are joined to b, too". */
    private static void meantWithOthers() {
        HoleDeck deck = meaning(TWO + "join m o;join n o;");
        meant(deck, 2, 0, 0, 3);
        meant(deck, 2, 1, 0, 3);
    }

    /** "none, if a is not joined to b". */
    private static void meantNotJoined() {
        HoleDeck deck = meaning(TWO + "join m o;join o m;");
        meant(deck, 2, 1, 0, 0);
        meant(deck, 2, 3, 0, 0);
        deck = meaning(TWO + "join o n;");
        // the join goes the other way
        meant(deck, 2, 1, 0, 0);
        meant(deck, 1, 2, 0, 0);
    }

    private static void meantOfNoCards() {
        HoleDeck deck = new HoleDeck();
        Check.book(deck, TWO + "join m o;");
        meant(deck, 2, 0, 0, 0);
    }

    // ---- JAMS

    /** anew(): CARDS there are; "its WEAR was". */
    private static void anewAtItsEnds() {
        twins.span("anew", Twins::rich, 0, 4, (deck, card) -> deck.anew(card));
        HoleDeck deck = Check.deckOf("1", "2");
        check.taken("0 of a new one", deck, deck.anew(0), 0);
        deck.pass(0, false);
        check.taken("1", deck, deck.anew(0), 1);
        check.taken("0 then", deck, deck.anew(0), 0);
        check.taken("the other's WEAR", deck, deck.card(1, 18), 1);
        check.taken("it lies where it lay", deck, deck.lies(0), 0);
        check.taken("no HOURS of it", deck, deck.many(3), 12);
    }

    /** "a LIMIT (1 to 20)"; what 0 and 1. */
    private static void limitsOfAList() {
        twins.span("limit", Twins::rich, 1, 20, (deck, limit) -> deck.list(limit, 1, 0));
        twins.span("what of a LIST", Twins::rich, 0, 1, (deck, what) -> deck.list(3, 1, what));
    }

    /** "so many (0 to 20) PASSES more". */
    private static void passesOfAList() {
        twins.span("passes", Twins::rich, 0, 20, (deck, passes) -> deck.list(20, passes, 0));
    }

    /** "a CARD whose WEAR would go above a LIMIT": just the LIMIT is not above it. */
    private static void jamsAboveTheLimit() {
        HoleDeck deck = Check.deckOf("1", "2", "3");
        for (int i = 0; i < 4; i++) {
            deck.pass(0, false);
        }
        deck.anew(1);
        deck.pass(0, false);
        // WEAR 5, 1, 5
        list(deck, 6, 1, 0, 0);
        list(deck, 5, 1, 2, 5);
        list(deck, 5, 0, 0, 0);
        list(deck, 4, 0, 2, 5);
        list(deck, 2, 1, 2, 5);
        list(deck, 1, 0, 2, 5);
        list(deck, 1, 1, 3, 7);
        list(deck, 20, 15, 0, 0);
        list(deck, 20, 16, 2, 5);
        list(deck, 20, 19, 2, 5);
        list(deck, 20, 20, 3, 7);
    }

    private static void list(HoleDeck deck, int limit, int passes, int many, int set) {
        check.taken("LIST of " + limit + " and " + passes, deck, deck.list(limit, passes, 0), many);
        check.taken("its set", deck, deck.list(limit, passes, 1), set);
    }

    private static void listOfNone() {
        HoleDeck deck = new HoleDeck();
        list(deck, 1, 1, 0, 0);
        list(deck, 20, 20, 0, 0);
        list(deck, 1, 0, 0, 0);
        HoleDeck fresh = Check.deckOf("1");
        list(fresh, 1, 1, 0, 0);
        list(fresh, 20, 20, 0, 0);
    }

    /** "(1 for CARD 0, 2 for 1 ..)": by a CARD's number, up to CARD 29. */
    private static void listOfThirty() {
        HoleDeck deck = new HoleDeck();
        deck.tray(0, 0, 8);
        for (int card = 0; card < 30; card++) {
            deck.punch(0, 0, -1);
        }
        deck.pass(0, false);
        list(deck, 1, 1, 30, (1 << 30) - 1);
        for (int card = 0; card < 29; card++) {
            deck.anew(card);
        }
        list(deck, 1, 1, 1, 1 << 29);
        deck.exchange(0, 29);
        list(deck, 1, 1, 1, 1 << 29);
        deck.anew(29);
        list(deck, 1, 1, 0, 0);
    }

    /** "there is none, if so many PASSES are more than the LIMIT" (6). */
    private static void listThatIsNot() {
        twins.refused("2 PASSES, LIMIT 1", Twins::rich, deck -> deck.list(1, 2, 0), 6);
        twins.refused("20 PASSES, LIMIT 19", Twins::rich, deck -> deck.list(19, 20, 1), 6);
        HoleDeck deck = Check.deckOf("1");
        for (int limit = 1; limit <= 20; limit++) {
            check.taken("as many as the LIMIT", deck, deck.list(limit, limit, 0), 0);
            if (limit < 20) {
                check.refused("one more", deck, deck.list(limit, limit + 1, 0), 6);
            }
        }
        check.refused("1 ahead of 6: what", deck, deck.list(1, 2, 2), 1);
        check.refused("1 ahead of 6: limit", deck, deck.list(0, 1, 0), 1);
        check.refused("1 ahead of 6: passes", deck, deck.list(20, 21, 0), 1);
    }

    // ---- HABITS and FRACTIONS

    private static void clerksOfHabit() {
        twins.askedSpan("habit of CLERK", Twins::rich, 0, 1, (deck, clerk) -> deck.habit(clerk));
    }

    /** habit(): "(1; 6: it punched none)". */
    private static void habitOfNone() {
        twins.denied("CLERK 1 punched none", deck -> {
            Check.punch(deck, "x", 0, 0);
            Check.punch(deck, "1", 0, 0);
            Check.punch(deck, "1", 0, 0);
            deck.habit(0);
        }, deck -> deck.habit(1), 6);
        HoleDeck deck = new HoleDeck();
        check.refused("no CARDS: CLERK 0", deck, deck.habit(0), 6);
        check.refused("no CARDS: CLERK 1", deck, deck.habit(1), 6);
        check.refused("no CLERK 2", deck, deck.habit(2), 1);
        check.due("0", deck.top(), 0);
        check.due("by 1", deck.bottom(), 1);
    }

    private static void fraction(HoleDeck deck, int clerk, long top, long bottom) {
        check.taken("habit", deck, deck.habit(clerk));
        check.due("top", deck.top(), top);
        check.due("bottom", deck.bottom(), bottom);
    }

    private static void habitOfAll() {
        HoleDeck deck = new HoleDeck();
        Check.fill(deck, 0, 1, 0, 0, 0, 0, 0, 0, 0, 3);
        for (int card = 0; card < 30; card++) {
            deck.punch(0, 1, -1);
        }
        fraction(deck, 1, 1, 1);
        deck.holes(0, 7, 0);
        fraction(deck, 1, 29, 30);
        deck.holes(1, 7, 1);
        fraction(deck, 1, 14, 15);
        for (int card = 2; card < 29; card++) {
            deck.holes(card, 7, 512);
        }
        fraction(deck, 1, 1, 30);
        deck.holes(29, 7, 512);
        fraction(deck, 1, 0, 1);
    }

    /** "without a common divisor, the bottom above 0; 0 is 0 by 1": each top and bottom up to 12. */
    private static void fractionsWithoutADivisor() {
        for (int all = 1; all <= 12; all++) {
            for (int wrong = 0; wrong <= all; wrong++) {
                HoleDeck deck = new HoleDeck();
                deck.tray(0, 0, 8);
                for (int card = 0; card < all; card++) {
                    deck.write(0, 0, card < wrong ? 3 : 1);
                    deck.punch(0, 0, -1);
                }
                int divisor = 1;
                for (int by = 2; by <= all; by++) {
                    if (all % by == 0 && wrong % by == 0) {
                        divisor = by;
                    }
                }
                fraction(deck, 0, wrong / divisor, all / divisor);
            }
        }
    }

    /** "how many of its CARDS have a WRONG COLUMN": any of the eight, several count once, BLANK is not WRONG. */
    private static void anyWrongColumn() {
        for (int column = 0; column < 8; column++) {
            HoleDeck deck = Check.deckOf("", "1");
            deck.holes(0, column, 1024);
            fraction(deck, 0, 1, 2);
            deck.holes(0, (column + 3) % 8, 3);
            fraction(deck, 0, 1, 2);
        }
        HoleDeck other = new HoleDeck();
        Check.punch(other, "x", 1, 0);
        Check.punch(other, "1", 0, 0);
        fraction(other, 0, 0, 1);
        fraction(other, 1, 1, 1);
    }

    // ---- MARKS

    /** "MARKS, at most 3"; mark(): "(4)". */
    private static void threeMarks() {
        HoleDeck deck = new HoleDeck();
        check.taken("the first", deck, deck.mark(), 1);
        check.taken("the second", deck, deck.mark(), 2);
        check.taken("the third", deck, deck.mark(), 3);
        check.refused("a fourth", deck, deck.mark(), 4);
        check.refused("again", deck, deck.mark(), 4);
        check.taken("one is gone", deck, deck.back(), 2);
        check.taken("one more", deck, deck.mark(), 3);
        check.refused("a fourth", deck, deck.mark(), 4);
        twins.refused("a 4th MARK", one -> {
            Twins.rich(one);
            one.mark();
            Check.punchBy(one, 2, "9", 0, 0);
        }, one -> one.mark(), 4);
    }

    /** A MARK of a new object takes all back to nothing. */
    private static void marksOfNothing() {
        HoleDeck deck = new HoleDeck();
        deck.mark();
        Twins.rich(deck);
        deck.back();
        deck.back();
        check.taken("the first MARK", deck, deck.back(), 0);
        check.taken("no CARDS", deck, deck.many(0), 0);
        check.taken("no CODES", deck, deck.many(1), 0);
        check.taken("no MEANS", deck, deck.many(2), 0);
        check.taken("HOURS 0", deck, deck.many(3), 0);
        check.refused("none lies", deck, deck.lies(0), 6);
        check.taken("the empty RUN", deck, deck.run(), 0);
        check.taken("the next CARD is CARD 0", deck, Check.punch(deck, "7"), 0);
        check.taken("at place 0", deck, deck.card(0, 19), 0);
        check.taken("without WEAR", deck, deck.card(0, 18), 0);
    }

    private static void backToEachMark() {
        HoleDeck deck = Check.deckOf("1");
        for (int i = 0; i < 3; i++) {
            deck.mark();
            Check.punch(deck, "" + i);
            deck.pass(0, false);
        }
        for (int left = 2; left >= 0; left--) {
            check.taken("back", deck, deck.back(), left);
            check.taken("so many CARDS", deck, deck.many(0), left + 1);
            check.taken("so much WEAR", deck, deck.card(0, 18), left);
        }
        check.refused("none is left", deck, deck.back(), 6);
    }

    /** "CARDS, the DECK, WEAR, HOURS, the BOOK, the RUN are kept as they are". */
    private static void backTakesBack() {
        HoleDeck deck = new HoleDeck();
        Check.punch(deck, "9", 0, 0);
        Check.punch(deck, "1", 1, -1);
        Check.book(deck, "code a year 1;mean m holes 1;code b year 2;mean n holes 2;join m n;");
        Check.program(deck, "loop 2;cut 1;end;");
        deck.pass(0, false);
        deck.mark();
        deck.holes(0, 0, 0);
        deck.holes(1, 7, 4095);
        deck.exchange(0, 1);
        deck.pass(1, false);
        deck.anew(0);
        Check.punch(deck, "5", 1, 1);
        Check.book(deck, "code x year 50;mean y holes 9;code z year 51;mean w holes 8;join w y;");
        Check.program(deck, "turn;");
        check.taken("back", deck, deck.back(), 0);
        check.taken("CARDS", deck, deck.many(0), 2);
        check.refused("no CARD 2", deck, deck.card(2, 0), 1);
        check.taken("HOLES", deck, deck.card(0, 0), 512);
        check.taken("what they READ", deck, deck.card(0, 8), 9);
        check.taken("HOLES of the last COLUMN", deck, deck.card(1, 7), 0);
        check.taken("what they READ", deck, deck.card(1, 15), 10);
        check.taken("CLERK", deck, deck.card(1, 16), 1);
        check.taken("INK", deck, deck.card(0, 17), 0);
        check.refused("no INK", deck, deck.card(1, 17), 6);
        check.lies("the DECK", deck, "1 0");
        check.taken("WEAR of 0", deck, deck.card(0, 18), 1);
        check.taken("WEAR of 1", deck, deck.card(1, 18), 1);
        check.taken("HOURS", deck, deck.many(3), 12);
        check.taken("CODES", deck, deck.many(1), 2);
        check.taken("YEAR", deck, deck.code(1, 0), 2);
        check.taken("HOLES of a MEAN", deck, deck.mean(1, 1), 4);
        check.taken("its CODE", deck, deck.mean(1, 0), 1);
        check.taken("a join", deck, deck.joined(0, 1), 1);
        check.refused("no other join", deck, deck.joined(1, 0), 6);
        check.taken("the RUN", deck, deck.run(), 3);
        check.lies("two cuts of two CARDS", deck, "1 0");
    }

    /** Thirty CARDS are taken back to none, and none to thirty. */
    private static void backToMoreCards() {
        HoleDeck deck = new HoleDeck();
        deck.mark();
        deck.tray(0, 1, 8);
        for (int card = 0; card < 30; card++) {
            deck.write(0, 0, card);
            deck.punch(0, card % 2, card % 3 - 1);
        }
        deck.pass(0, false);
        deck.mark();
        int first = deck.lies(0);
        int last = deck.lies(29);
        for (int card = 0; card < 30; card++) {
            deck.holes(card, 0, 0);
        }
        deck.pass(0, false);
        deck.exchange(first, last);
        check.taken("to thirty", deck, deck.back(), 1);
        for (int card = 0; card < 30; card++) {
            check.due("HOLES of CARD " + card, deck.card(card, 0), card);
            check.due("its CLERK", deck.card(card, 16), card % 2);
            check.due("its INK", deck.card(card, 17), card % 3 - 1);
            check.due("its WEAR", deck.card(card, 18), 1);
        }
        check.due("the first one", deck.lies(0), first);
        check.due("the last one", deck.lies(29), last);
        check.refused("a 31st", deck, deck.punch(0, 0, 0), 4);
        check.taken("to none", deck, deck.back(), 0);
        check.taken("none", deck, deck.many(0), 0);
        check.taken("a new CARD 0", deck, deck.punch(0, 0, 0), 0);
    }

    /** What a MARK does not keep: TRAYS, the tape, the FRACTION, fault(), and what was told of plans and finds. */
    private static void backLeaves() {
        HoleDeck deck = Check.deckOf("2x", "1x");
        deck.mark();
        Check.fill(deck, 0, 0, 0);
        deck.plan(0, 1);
        Check.fill(deck, 1, 0, 0, 2, 0, 0, 0, 0, 0, 0, 0, 0, 0, 0, 2);
        deck.fewest(0, 1);
        deck.parts(0, 0);
        deck.habit(0);
        Check.program(deck, "add 0 0;pass 0;");
        deck.run();
        check.fault(deck, " ?", false, 1, 1);
        Check.feed(deck, "turn;turn;          ");
        check.taken("back", deck, deck.back(), 0);
        check.taken("a TRAY", deck, deck.read(1, 1), 2);
        check.taken("HANDS of the plan", deck, deck.planned(-1), 2);
        check.taken("MISREADS", deck, deck.misread(1), 0);
        check.taken("PARTED", deck, deck.parted(1), 2);
        check.due("top", deck.top(), 1);
        check.due("bottom", deck.bottom(), 1);
        check.taken("the REGISTER", deck, deck.ran(0), 3);
        check.due("the FAULT", deck.fault(0), 1);
        check.due("its place", deck.fault(1), 1);
        check.taken("the empty RUN", deck, deck.run(), 0);
        check.taken("the tape", deck, deck.program(10), 2);
    }

    /** back(): "(6)". */
    private static void backWithoutMarks() {
        twins.refused("no MARK is left", deck -> {
            Twins.rich(deck);
            deck.back();
            deck.back();
            Check.punchBy(deck, 2, "9", 1, 1);
        }, deck -> deck.back(), 6);
        HoleDeck deck = new HoleDeck();
        check.refused("none at first", deck, deck.back(), 6);
    }

    /** "all is taken back to the latest MARK, which is gone then". */
    private static void markIsGone() {
        HoleDeck deck = Check.deckOf("1");
        deck.mark();
        Check.punch(deck, "2");
        deck.mark();
        Check.punch(deck, "3");
        deck.back();
        Check.punch(deck, "4");
        Check.punch(deck, "5");
        check.taken("to the one ahead of it", deck, deck.back(), 0);
        check.taken("one CARD", deck, deck.many(0), 1);
        deck.mark();
        deck.holes(0, 0, 0);
        deck.back();
        check.taken("what was changed behind a MARK", deck, deck.card(0, 8), 1);
    }

    /** "An object is used for at most 512 calls": the 512th is answered as the first. */
    private static void lastCalls() {
        HoleDeck deck = new HoleDeck();
        deck.tray(0, 0, 8);
        for (int i = 1; i < 509; i++) {
            deck.tray(1 + i % 3, i % 4, i % 61);
        }
        check.due("the 510th", deck.punch(0, 1, 1), 0);
        check.due("the 511th", deck.pass(7, false), 1);
        check.due("the 512th", deck.many(3), 6);
    }
}
