/** Promises 1 to 8 at their edges: each sentence of the document that names a boundary has a test of its own. */
public final class EdgeTraysTest {
    private static final Check check = new Check();
    private static final Twins twins = new Twins(check);
    private static final int LEAST = Integer.MIN_VALUE;
    private static final int MOST = Integer.MAX_VALUE;

    public static void main(String[] args) {
        nothingThereAtFirst();
        callsWithoutStatus();
        statusOfTheLatestCall();
        refusedFeedLeavesStatus();
        topAndBottomStay();
        traysZeroToThree();
        sorts();
        sixtyNumbers();
        rowOfZeros();
        trayInPlaceOfTheOld();
        eightBits();
        sixteenBits();
        thirtyTwoBits();
        sixtyFourBits();
        placesOfWrite();
        placesOfRead();
        noneAndMinusOne();
        writeStatusOrder();
        pourBelowZero();
        pourMissing();
        pourUnlike();
        pourPlaces();
        pourOfNone();
        pourOfAll();
        pourOntoItself();
        pourStatusOrder();
        check.end();
    }

    private static void withTrays(HoleDeck deck) {
        Check.fill(deck, 0, 0, 11, 12, 13, 14);
        Check.fill(deck, 1, 0, 21, 22, 23);
        Check.fill(deck, 2, 3, 31, 32, 33);
    }

    /** "No CARDS, CODES, MARKS; HOURS 0; TRAYS are MISSING; an empty tape; the FRACTION 0 by 1; STATUS 0." */
    private static void nothingThereAtFirst() {
        HoleDeck deck = new HoleDeck();
        check.due("STATUS 0", deck.status(), 0);
        check.due("the FRACTION 0", deck.top(), 0);
        check.due("by 1", deck.bottom(), 1);
        check.due("no FAULT ahead of any book", deck.fault(0), -1);
        check.due("no place of one", deck.fault(1), -1);
        check.due("still STATUS 0", deck.status(), 0);
        check.taken("no CARDS", deck, deck.many(0), 0);
        check.refused("no CARD 0", deck, deck.card(0, 0), 1);
        check.refused("none lies at 0", deck, deck.lies(0), 6);
        check.taken("no CODES", deck, deck.many(1), 0);
        check.refused("no CODE 0", deck, deck.code(0, 0), 1);
        check.taken("no MEANS", deck, deck.many(2), 0);
        check.refused("no MEAN 0", deck, deck.mean(0, 0), 1);
        check.taken("HOURS 0", deck, deck.many(3), 0);
        check.refused("no MARKS", deck, deck.back(), 6);
        for (int tray = 0; tray < 4; tray++) {
            check.refused("read of TRAY " + tray, deck, deck.read(tray, 0), 2);
            check.refused("write to TRAY " + tray, deck, deck.write(tray, 0, 1), 2);
        }
        check.refused("an empty tape has no byte", deck, deck.book(1), 1);
        check.refused("nor for a RUN", deck, deck.program(1), 1);
        check.taken("the empty RUN at first", deck, deck.run(), 0);
        check.due("an empty tape takes twenty bytes", deck.feed(0, 0, 0, 0, 0), 20);
        HoleDeck other = new HoleDeck();
        check.due("another object's tape is its own", other.feed(0, 0, 0, 0, 0), 20);
    }

    /** "status(), top(), bottom(), feed(), fault() have none." */
    private static void callsWithoutStatus() {
        HoleDeck deck = new HoleDeck();
        deck.lies(0);
        check.due("STATUS 6", deck.status(), 6);
        check.due("behind status()", deck.status(), 6);
        deck.top();
        check.due("behind top()", deck.status(), 6);
        deck.bottom();
        check.due("behind bottom()", deck.status(), 6);
        deck.feed(1, 2, 3, 4, 5);
        check.due("behind feed()", deck.status(), 6);
        deck.fault(0);
        check.due("behind fault(0)", deck.status(), 6);
        deck.fault(2);
        check.due("behind fault(2)", deck.status(), 6);
        deck.fault(LEAST);
        check.due("behind fault of the least", deck.status(), 6);
    }

    /** "STATUS of the latest call that has one." */
    private static void statusOfTheLatestCall() {
        HoleDeck deck = new HoleDeck();
        deck.tray(4, 0, 0);
        check.due("1", deck.status(), 1);
        deck.read(0, 0);
        check.due("2", deck.status(), 2);
        deck.tray(0, 0, 0);
        check.due("0", deck.status(), 0);
        deck.read(0, 0);
        check.due("3", deck.status(), 3);
        deck.tray(1, 1, 0);
        deck.pour(0, 0, 1, 0, 0);
        check.due("8", deck.status(), 8);
        Check.fill(deck, 1, 1, 0, 0, 0, 0, 0, 0, 0, -1);
        deck.punch(1, 0, 0);
        check.due("5", deck.status(), 5);
        Check.feed(deck, "?");
        deck.book(1);
        check.due("9", deck.status(), 9);
        deck.mark();
        deck.mark();
        deck.mark();
        deck.mark();
        check.due("4", deck.status(), 4);
        deck.many(0);
        check.due("0 again", deck.status(), 0);
    }

    /** feed() has no STATUS, with the answer NONE too. */
    private static void refusedFeedLeavesStatus() {
        HoleDeck deck = new HoleDeck();
        for (int i = 0; i < 25; i++) {
            deck.feed(0, 0, 0, 0, 0);
        }
        deck.many(0);
        check.due("a byte above 500", deck.feed(0, 0, 0, 0, 0), -1);
        check.due("STATUS 0 stays", deck.status(), 0);
        deck.many(4);
        check.due("a byte above 500", deck.feed(0, 0, 0, 0, 0), -1);
        check.due("STATUS 1 stays", deck.status(), 1);
    }

    /** "The top of the FRACTION told latest." A refused habit() tells none. */
    private static void topAndBottomStay() {
        HoleDeck deck = new HoleDeck();
        Check.punch(deck, "x", 1, 0);
        Check.punch(deck, "1", 1, 0);
        Check.punch(deck, "1", 1, 0);
        deck.habit(1);
        check.due("top", deck.top(), 1);
        check.due("bottom", deck.bottom(), 3);
        check.refused("CLERK 0 punched none", deck, deck.habit(0), 6);
        check.refused("no CLERK 2", deck, deck.habit(2), 1);
        check.due("the same top", deck.top(), 1);
        check.due("the same bottom", deck.bottom(), 3);
        check.due("the STATUS of the refused call", deck.status(), 1);
    }

    /** "TRAYS 0 to 3." */
    private static void traysZeroToThree() {
        twins.askedSpan("tray", Twins::rich, 0, 3, (deck, tray) -> deck.tray(tray, 1, 5));
        twins.askedSpan("write to", EdgeTraysTest::fourTrays, 0, 3, (deck, tray) -> deck.write(tray, 0, 9));
        twins.span("read of", EdgeTraysTest::fourTrays, 0, 3, (deck, tray) -> deck.read(tray, 0));
        twins.askedSpan("pour from", EdgeTraysTest::fourTrays, 0, 3, (deck, tray) -> deck.pour(tray, 0, 1, 1, 1));
        twins.askedSpan("pour to", EdgeTraysTest::fourTrays, 0, 3, (deck, tray) -> deck.pour(1, 0, tray, 1, 1));
    }

    private static void fourTrays(HoleDeck deck) {
        for (int tray = 0; tray < 4; tray++) {
            Check.fill(deck, tray, 2, tray + 1, tray + 2);
        }
    }

    /** "numbers of 8 bits (sort 0), 16 (1), 32 (2) or 64 (3)." */
    private static void sorts() {
        twins.askedSpan("sort", Twins::rich, 0, 3, (deck, sort) -> deck.tray(0, sort, 5));
        twins.askedSpan("sort of a MISSING one", Twins::rich, 0, 3, (deck, sort) -> deck.tray(3, sort, 5));
    }

    /** "rows of 0 to 60 numbers." */
    private static void sixtyNumbers() {
        twins.askedSpan("numbers", Twins::rich, 0, 60, (deck, many) -> deck.tray(0, 1, many));
        HoleDeck deck = new HoleDeck();
        for (int sort = 0; sort < 4; sort++) {
            check.taken("60 of sort " + sort, deck, deck.tray(sort, sort, 60));
            for (int place = 0; place < 60; place++) {
                deck.write(sort, place, place + 1);
            }
        }
        for (int sort = 0; sort < 4; sort++) {
            check.taken("the first", deck, deck.read(sort, 0), 1);
            check.taken("the last", deck, deck.read(sort, 59), 60);
            check.refused("behind it", deck, deck.read(sort, 60), 3);
        }
    }

    /** "A TRAY is a row of so many 0s." */
    private static void rowOfZeros() {
        HoleDeck deck = new HoleDeck();
        deck.tray(1, 2, 60);
        for (int place = 0; place < 60; place++) {
            check.taken("0 at first", deck, deck.read(1, place), 0);
            deck.write(1, place, 7);
        }
        deck.tray(1, 3, 59);
        for (int place = 0; place < 59; place++) {
            check.taken("0 again", deck, deck.read(1, place), 0);
        }
        check.refused("one less than it was", deck, deck.read(1, 59), 3);
        deck.tray(1, 3, 60);
        check.taken("0 where 7 was long ago", deck, deck.read(1, 59), 0);
    }

    /** A TRAY that is there can become one of another sort, a longer, a shorter and an empty one. */
    private static void trayInPlaceOfTheOld() {
        HoleDeck deck = new HoleDeck();
        deck.tray(2, 3, 2);
        deck.write(2, 1, 1L << 40);
        check.taken("of 8 bits then", deck, deck.tray(2, 0, 3));
        deck.write(2, 2, 300);
        check.taken("cut to 8 bits", deck, deck.read(2, 2), 44);
        check.taken("an empty one", deck, deck.tray(2, 0, 0));
        check.refused("without a place", deck, deck.read(2, 0), 3);
        check.refused("to write to", deck, deck.write(2, 0, 1), 3);
        check.refused("the others are MISSING still", deck, deck.read(1, 0), 2);
    }

    private static void cut(int sort, long v, long want) {
        HoleDeck deck = new HoleDeck();
        deck.tray(sort, sort, 3);
        check.taken("write " + v, deck, deck.write(sort, 1, v));
        check.taken(v + " cut to sort " + sort, deck, deck.read(sort, 1), want);
        check.taken("the place ahead of it", deck, deck.read(sort, 0), 0);
        check.taken("the place behind it", deck, deck.read(sort, 2), 0);
    }

    /** "A number comes to a place of a TRAY, cut to its sort": 8 bits. */
    private static void eightBits() {
        cut(0, 127, 127);
        cut(0, 128, -128);
        cut(0, 255, -1);
        cut(0, 256, 0);
        cut(0, 257, 1);
        cut(0, -1, -1);
        cut(0, -128, -128);
        cut(0, -129, 127);
        cut(0, Long.MAX_VALUE, -1);
        cut(0, Long.MIN_VALUE, 0);
    }

    /** 16 bits. */
    private static void sixteenBits() {
        cut(1, 255, 255);
        cut(1, 32767, 32767);
        cut(1, 32768, -32768);
        cut(1, 65535, -1);
        cut(1, 65536, 0);
        cut(1, -32768, -32768);
        cut(1, -32769, 32767);
        cut(1, Long.MAX_VALUE, -1);
        cut(1, Long.MIN_VALUE, 0);
    }

    /** 32 bits. */
    private static void thirtyTwoBits() {
        cut(2, 65535, 65535);
        cut(2, 2147483647L, 2147483647L);
        cut(2, 2147483648L, -2147483648L);
        cut(2, 4294967295L, -1);
        cut(2, 4294967296L, 0);
        cut(2, -2147483648L, -2147483648L);
        cut(2, -2147483649L, 2147483647L);
        cut(2, Long.MAX_VALUE, -1);
        cut(2, Long.MIN_VALUE, 0);
    }

    /** 64 bits: nothing is cut. */
    private static void sixtyFourBits() {
        cut(3, 4294967296L, 4294967296L);
        cut(3, Long.MAX_VALUE, Long.MAX_VALUE);
        cut(3, Long.MIN_VALUE, Long.MIN_VALUE);
        cut(3, -1, -1);
    }

    /** write(): "3 a place that the TRAY has not". */
    private static void placesOfWrite() {
        for (int place : new int[] {-1, 3, 60, LEAST, MOST}) {
            twins.denied("write to place " + place, EdgeTraysTest::withTrays, deck -> deck.write(1, place, 9), 3);
        }
        HoleDeck deck = new HoleDeck();
        withTrays(deck);
        check.taken("the first place", deck, deck.write(1, 0, 5));
        check.taken("the last place", deck, deck.write(1, 2, 6));
        check.taken("the first number", deck, deck.read(1, 0), 5);
        check.taken("the one between", deck, deck.read(1, 1), 22);
        check.taken("the last number", deck, deck.read(1, 2), 6);
        check.taken("a number written twice", deck, deck.write(1, 2, 7));
        check.taken("is the latest", deck, deck.read(1, 2), 7);
        twins.denied("write to a MISSING one", EdgeTraysTest::withTrays, one -> one.write(3, 0, 9), 2);
    }

    /** read(): "3 a place that the TRAY has not". */
    private static void placesOfRead() {
        for (int place : new int[] {-1, 3, 60, LEAST, MOST}) {
            twins.refused("read of place " + place, EdgeTraysTest::withTrays, deck -> deck.read(1, place), 3);
        }
        HoleDeck deck = new HoleDeck();
        withTrays(deck);
        check.taken("the first", deck, deck.read(0, 0), 11);
        check.taken("the last", deck, deck.read(0, 3), 14);
        twins.refused("read of a MISSING one", EdgeTraysTest::withTrays, one -> one.read(3, 0), 2);
    }

    /** "STATUS tells NONE from -1." */
    private static void noneAndMinusOne() {
        HoleDeck deck = new HoleDeck();
        for (int sort = 0; sort < 4; sort++) {
            deck.tray(sort, sort, 1);
            deck.write(sort, 0, -1);
            check.taken("-1 that was written", deck, deck.read(sort, 0), -1);
            check.refused("NONE", deck, deck.read(sort, 1), 3);
        }
    }

    /** write() and read(): "(1, 2, 3)". */
    private static void writeStatusOrder() {
        HoleDeck deck = new HoleDeck();
        check.refused("1 ahead of 3: write", deck, deck.write(4, -1, 0), 1);
        check.refused("1 ahead of 3: read", deck, deck.read(-1, 60), 1);
        check.refused("2 ahead of 3: write", deck, deck.write(3, -1, 0), 2);
        check.refused("2 ahead of 3: write", deck, deck.write(3, 60, 0), 2);
        check.refused("2 ahead of 3: read", deck, deck.read(0, -1), 2);
        check.refused("2 ahead of 3: read", deck, deck.read(0, MOST), 2);
    }

    /** pour(): "(1: below 0, too". */
    private static void pourBelowZero() {
        for (int below : new int[] {-1, LEAST}) {
            twins.denied("place below 0", EdgeTraysTest::withTrays, deck -> deck.pour(0, below, 1, 0, 1), 1);
            twins.denied("at below 0", EdgeTraysTest::withTrays, deck -> deck.pour(0, 0, 1, below, 1), 1);
            twins.denied("so many below 0", EdgeTraysTest::withTrays, deck -> deck.pour(0, 1, 1, 1, below), 1);
        }
    }

    private static void pourMissing() {
        twins.denied("from a MISSING one", EdgeTraysTest::withTrays, deck -> deck.pour(3, 0, 1, 0, 0), 2);
        twins.denied("to a MISSING one", EdgeTraysTest::withTrays, deck -> deck.pour(0, 0, 3, 0, 0), 2);
        twins.denied("from itself, MISSING", EdgeTraysTest::withTrays, deck -> deck.pour(3, 0, 3, 0, 0), 2);
    }

    /** "8 TRAYS are of unlike sorts." */
    private static void pourUnlike() {
        twins.denied("8 to 64 bits", EdgeTraysTest::withTrays, deck -> deck.pour(0, 0, 2, 0, 1), 8);
        twins.denied("64 to 8 bits", EdgeTraysTest::withTrays, deck -> deck.pour(2, 0, 0, 0, 1), 8);
        for (int a = 0; a < 4; a++) {
            for (int b = 0; b < 4; b++) {
                HoleDeck deck = new HoleDeck();
                deck.tray(0, a, 1);
                deck.tray(1, b, 1);
                check.due("sorts " + a + " and " + b, deck.pour(0, 0, 1, 0, 1), a == b);
                check.due("sorts " + a + " and " + b + ", STATUS", deck.status(), a == b ? 0 : 8);
            }
        }
    }

    /** pour(): "3 a place that the TRAY has not, or too few numbers". */
    private static void pourPlaces() {
        twins.denied("one too many of four", EdgeTraysTest::withTrays, deck -> deck.pour(0, 0, 0, 0, 5), 3);
        twins.denied("two from the last place", EdgeTraysTest::withTrays, deck -> deck.pour(0, 3, 1, 0, 2), 3);
        twins.denied("one from behind it", EdgeTraysTest::withTrays, deck -> deck.pour(0, 4, 1, 0, 1), 3);
        twins.denied("two to the last place", EdgeTraysTest::withTrays, deck -> deck.pour(0, 0, 1, 2, 2), 3);
        twins.denied("one to behind it", EdgeTraysTest::withTrays, deck -> deck.pour(0, 0, 1, 3, 1), 3);
        twins.denied("four into three", EdgeTraysTest::withTrays, deck -> deck.pour(0, 0, 1, 0, 4), 3);
        for (int far : new int[] {MOST, MOST - 1}) {
            twins.denied("from far behind", EdgeTraysTest::withTrays, deck -> deck.pour(0, far, 1, 0, 1), 3);
            twins.denied("to far behind", EdgeTraysTest::withTrays, deck -> deck.pour(0, 0, 1, far, 1), 3);
            twins.denied("by far too many", EdgeTraysTest::withTrays, deck -> deck.pour(0, 0, 1, 0, far), 3);
            twins.denied("a sum that runs over", EdgeTraysTest::withTrays, deck -> deck.pour(0, far, 1, far, far), 3);
        }
        HoleDeck deck = new HoleDeck();
        withTrays(deck);
        check.taken("one from the last place to the last one", deck, deck.pour(0, 3, 1, 2, 1));
        row(deck, 0, 11, 12, 13, 14);
        row(deck, 1, 21, 22, 14);
        check.taken("three from place 1 on", deck, deck.pour(0, 1, 1, 0, 3));
        row(deck, 1, 12, 13, 14);
    }

    private static void row(HoleDeck deck, int tray, long... numbers) {
        for (int place = 0; place < numbers.length; place++) {
            check.taken("TRAY " + tray + ", place " + place, deck, deck.read(tray, place), numbers[place]);
        }
        check.refused("TRAY " + tray + " has no more", deck, deck.read(tray, numbers.length), 3);
    }

    /** No number at all can be poured, as long as the place is not behind the end. */
    private static void pourOfNone() {
        HoleDeck deck = new HoleDeck();
        withTrays(deck);
        check.taken("none from the first place", deck, deck.pour(0, 0, 1, 0, 0));
        check.taken("none from the end to the end", deck, deck.pour(0, 4, 1, 3, 0));
        row(deck, 0, 11, 12, 13, 14);
        row(deck, 1, 21, 22, 23);
        deck.tray(3, 0, 0);
        check.taken("none of an empty one", deck, deck.pour(3, 0, 0, 0, 0));
        check.taken("none to an empty one", deck, deck.pour(0, 0, 3, 0, 0));
        check.taken("an empty one onto itself", deck, deck.pour(3, 0, 3, 0, 0));
        check.refused("one of an empty one", deck, deck.pour(3, 0, 0, 0, 1), 3);
        check.refused("one to an empty one", deck, deck.pour(0, 0, 3, 0, 1), 3);
        twins.denied("none from behind the end", EdgeTraysTest::withTrays, one -> one.pour(0, 5, 1, 0, 0), 3);
        twins.denied("none to behind the end", EdgeTraysTest::withTrays, one -> one.pour(0, 0, 1, 4, 0), 3);
    }

    /** A full TRAY of sixty. */
    private static void pourOfAll() {
        HoleDeck deck = new HoleDeck();
        deck.tray(0, 3, 60);
        deck.tray(1, 3, 60);
        for (int place = 0; place < 60; place++) {
            deck.write(0, place, Long.MIN_VALUE + place);
        }
        check.taken("all sixty", deck, deck.pour(0, 0, 1, 0, 60));
        for (int place = 0; place < 60; place++) {
            check.taken("place " + place, deck, deck.read(1, place), Long.MIN_VALUE + place);
        }
        check.refused("61", deck, deck.pour(0, 0, 1, 0, 61), 3);
        check.refused("60 from 1 on", deck, deck.pour(0, 1, 1, 0, 60), 3);
        check.taken("59 from 1 on", deck, deck.pour(0, 1, 1, 0, 59));
    }

    /** "(or its own) place on, as they were": numbers that are overwritten come as they were ahead of the call. */
    private static void pourOntoItself() {
        HoleDeck deck = new HoleDeck();
        Check.fill(deck, 0, 2, 1, 2, 3, 4, 5, 6);
        check.taken("one place up", deck, deck.pour(0, 0, 0, 1, 5));
        row(deck, 0, 1, 1, 2, 3, 4, 5);
        check.taken("two places down", deck, deck.pour(0, 2, 0, 0, 4));
        row(deck, 0, 2, 3, 4, 5, 4, 5);
        check.taken("where they are", deck, deck.pour(0, 0, 0, 0, 6));
        row(deck, 0, 2, 3, 4, 5, 4, 5);
        check.taken("three places up, side by side", deck, deck.pour(0, 0, 0, 3, 3));
        row(deck, 0, 2, 3, 4, 2, 3, 4);
    }

    /** "(1: below 0, too; 2; 8; 3; asked in this order)." */
    private static void pourStatusOrder() {
        HoleDeck deck = new HoleDeck();
        withTrays(deck);
        check.refused("1 ahead of 2: no TRAY, MISSING", deck, deck.pour(4, 0, 3, 0, 0), 1);
        check.refused("1 ahead of 2: MISSING, no TRAY", deck, deck.pour(3, 0, -1, 0, 0), 1);
        check.refused("1 ahead of 2: place below 0", deck, deck.pour(3, -1, 0, 0, 0), 1);
        check.refused("1 ahead of 2: at below 0", deck, deck.pour(0, 0, 3, -1, 0), 1);
        check.refused("1 ahead of 2: many below 0", deck, deck.pour(3, 0, 3, 0, -1), 1);
        check.refused("1 ahead of 8", deck, deck.pour(0, 0, 2, 0, -1), 1);
        check.refused("1 ahead of 3", deck, deck.pour(0, 5, 1, -1, 0), 1);
        check.refused("2 ahead of 3: from", deck, deck.pour(3, 99, 0, 99, 99), 2);
        check.refused("2 ahead of 3: to", deck, deck.pour(0, 99, 3, 99, 99), 2);
        check.refused("8 ahead of 3: place", deck, deck.pour(0, 5, 2, 0, 0), 8);
        check.refused("8 ahead of 3: at", deck, deck.pour(0, 0, 2, 4, 0), 8);
        check.refused("8 ahead of 3: many", deck, deck.pour(2, 0, 0, 0, MOST), 8);
    }
}
