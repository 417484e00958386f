/** Promises 20 to 28 and section 3 at their edges: each sentence has a test of its own. */
public final class EdgePassesTest {
    private static final Check check = new Check();
    private static final Twins twins = new Twins(check);
    private static final int LEAST = Integer.MIN_VALUE;
    private static final int MOST = Integer.MAX_VALUE;

    public static void main(String[] args) {
        columnsOfAPass();
        twelvePockets();
        passOfNoCards();
        passOfOneCard();
        passOfThirtyCards();
        alikeInTheirOrder();
        stopsAtTheFirst();
        stopsAtTheLast();
        stopsNowhere();
        stopsBetween();
        blanksWithoutStops();
        wrongDoesNotStop();
        hoursTogether();
        wearGrows();
        keyOfATray();
        itemsOfAKey();
        itemsByFive();
        itemsByTwo();
        orderedOfFew();
        orderedByFirstThatDiffer();
        keyStatusOrder();
        planOfNone();
        planOfEachLength();
        planOfThirtyCards();
        planWithFewestHands();
        planFirstRow();
        planThatIsNot();
        planChangesNothing();
        plannedAtItsEnds();
        plannedOfTheLatest();
        fieldsOfOneToSix();
        fieldBlankAndWrong();
        wheels();
        wheelsThatRunOver();
        sumOfNoCards();
        sumCountsNone();
        pocketsZeroToEleven();
        pocketSums();
        collateEdges();
        collateOfLikeNumbers();
        collateBehind();
        matchedEdges();
        check.end();
    }

    private static HoleDeck all(int column) {
        HoleDeck deck = new HoleDeck();
        deck.tray(0, 1, 8);
        for (int card = 0; card < 12; card++) {
            int reads = 11 - card;
            deck.write(0, column, Check.holesThatRead(reads));
            deck.punch(0, 0, -1);
        }
        return deck;
    }

    // ---- PASSES

    /** pass(): COLUMNS 0 to 7. */
    private static void columnsOfAPass() {
        twins.span("pass by", Twins::rich, 0, 7, (deck, column) -> deck.pass(column, false));
        twins.span("pass that stops by", Twins::rich, 0, 7, (deck, column) -> deck.pass(column, true));
        for (int column = 0; column < 8; column++) {
            HoleDeck deck = all(column);
            check.taken("by COLUMN " + column, deck, deck.pass(column, false), 12);
            check.taken("the first READS 0", deck, deck.card(deck.lies(0), 8 + column), 0);
        }
    }

    /** "pocket by pocket, 0 first, BLANK, WRONG last"; HANDS of all twelve. */
    private static void twelvePockets() {
        HoleDeck deck = all(3);
        check.taken("twelve HANDS", deck, deck.pass(3, false), 12);
        check.lies("0 first, BLANK, WRONG last", deck, "11 10 9 8 7 6 5 4 3 2 1 0");
        check.taken("minutes", deck, deck.many(3), 12 + 60);
        deck = all(3);
        check.taken("ten go to the BLANK one at place 1", deck, deck.pass(3, true), 2);
        check.lies("as they lay", deck, "0 1 2 3 4 5 6 7 8 9 10 11");
        check.taken("minutes", deck, deck.many(3), 1 + 10);
    }

    private static void passOfNoCards() {
        HoleDeck deck = new HoleDeck();
        check.taken("no HANDS", deck, deck.pass(0, false), 0);
        check.taken("no HANDS of one that STOPS", deck, deck.pass(7, true), 0);
        check.taken("no HOURS", deck, deck.many(3), 0);
    }

    private static void passOfOneCard() {
        HoleDeck deck = Check.deckOf("9");
        check.taken("one HAND", deck, deck.pass(0, false), 1);
        check.taken("six minutes", deck, deck.many(3), 6);
        check.taken("BLANK", deck, deck.pass(1, false), 1);
        check.taken("twelve", deck, deck.many(3), 12);
        check.taken("BLANK, and it STOPS", deck, deck.pass(1, true), 1);
        check.taken("five more", deck, deck.many(3), 17);
        check.taken("its WEAR", deck, deck.card(0, 18), 2);
    }

    private static void passOfThirtyCards() {
        HoleDeck deck = new HoleDeck();
        deck.tray(0, 1, 8);
        for (int card = 0; card < 30; card++) {
            deck.write(0, 7, 1 << (29 - card) % 10);
            deck.punch(0, 0, -1);
        }
        check.taken("ten HANDS", deck, deck.pass(7, false), 10);
        check.taken("minutes", deck, deck.many(3), 30 + 50);
        for (int place = 0; place < 30; place++) {
            check.taken("place " + place, deck, deck.lies(place), 9 - place / 3 + place % 3 * 10);
        }
        check.taken("WEAR of the first", deck, deck.card(0, 18), 1);
        check.taken("WEAR of the last", deck, deck.card(29, 18), 1);
    }

    /** "behind those there": what READS alike keeps its order, ZONES or not. */
    private static void alikeInTheirOrder() {
        HoleDeck deck = Check.deckOf("3", "3", "3", "3");
        deck.holes(1, 0, 8 + 1024);
        deck.holes(2, 0, 8 + 2048);
        deck.exchange(0, 3);
        check.taken("one HAND", deck, deck.pass(0, false), 1);
        check.lies("as they lay", deck, "3 1 2 0");
        deck.holes(0, 0, 3);
        deck.holes(1, 0, 1024);
        deck.holes(2, 0, 4095);
        check.taken("two HANDS", deck, deck.pass(0, false), 2);
        check.lies("all WRONG ones in one pocket", deck, "3 1 2 0");
    }

    /** "If it STOPS at blanks, and a CARD is BLANK there, it and all behind it do not go through". */
    private static void stopsAtTheFirst() {
        HoleDeck deck = Check.deckOf(" ", "2", "1");
        check.taken("what did not go through counts as one more", deck, deck.pass(0, true), 1);
        check.lies("as they lay", deck, "0 1 2");
        check.taken("no CARD went, one HAND", deck, deck.many(3), 5);
        for (int card = 0; card < 3; card++) {
            check.taken("no WEAR", deck, deck.card(card, 18), 0);
        }
    }

    private static void stopsAtTheLast() {
        HoleDeck deck = Check.deckOf("2", "1", " ");
        check.taken("two pockets and the rest", deck, deck.pass(0, true), 3);
        check.lies("the BLANK one behind all others", deck, "1 0 2");
        check.taken("two went", deck, deck.many(3), 2 + 15);
        check.taken("WEAR of one that went", deck, deck.card(1, 18), 1);
        check.taken("WEAR of the BLANK one", deck, deck.card(2, 18), 0);
    }

    private static void stopsNowhere() {
        HoleDeck deck = Check.deckOf("2", "1", "x");
        check.taken("nothing is one more", deck, deck.pass(0, true), 3);
        check.lies("sorted", deck, "1 0 2");
        check.taken("all went", deck, deck.many(3), 3 + 15);
        HoleDeck other = Check.deckOf("2 ", "1 ");
        check.taken("BLANK in another COLUMN", other, other.pass(0, true), 2);
        check.lies("sorted", other, "1 0");
    }

    /** "and lie behind all others, as they lay". */
    private static void stopsBetween() {
        HoleDeck deck = Check.deckOf("9", "x", "8", " ", "0", " ", "x", "1");
        check.taken("three pockets and the rest", deck, deck.pass(0, true), 4);
        check.lies("the rest as they lay", deck, "2 0 1 3 4 5 6 7");
        check.taken("three went", deck, deck.many(3), 3 + 20);
    }

    /** Without STOPS a BLANK CARD goes through as others do. */
    private static void blanksWithoutStops() {
        HoleDeck deck = Check.deckOf(" ", "1", " ", "0");
        check.taken("three HANDS", deck, deck.pass(0, false), 3);
        check.lies("BLANK behind 9", deck, "3 1 0 2");
        check.taken("WEAR of a BLANK one", deck, deck.card(0, 18), 1);
    }

    /** A COLUMN with a ZONE alone is WRONG, not BLANK. */
    private static void wrongDoesNotStop() {
        HoleDeck deck = Check.deckOf("1", "2", "0");
        deck.holes(1, 0, 1024);
        check.taken("three HANDS", deck, deck.pass(0, true), 3);
        check.lies("WRONG last", deck, "2 0 1");
    }

    /** "HOURS: .. all of them together": the most that an object of 512 calls can come to. */
    private static void hoursTogether() {
        HoleDeck deck = new HoleDeck();
        deck.tray(0, 1, 8);
        for (int card = 0; card < 30; card++) {
            deck.write(0, 0, Check.holesThatRead(card % 12));
            deck.punch(0, 0, -1);
        }
        Check.program(deck, "loop 9;loop 9;loop 9;pass 0;end;end;end;");
        // the 200 STEPS are 1 + 3 loops and so many passes
        int passes = 176;
        int runs = 512 - deckCalls();
        for (int i = 0; i < runs; i++) {
            deck.run();
        }
        int minutes = runs * passes * (30 + 12 * 5);
        check.due("minutes of all", deck.many(3), minutes);
        check.due("WEAR of all", deck.card(29, 18), runs * passes);
    }

    /** Calls of hoursTogether() beside its runs: a tray, thirty numbers, thirty punches, two feeds, three others. */
    private static int deckCalls() {
        return 1 + 30 + 30 + 2 + 1 + 2;
    }

    private static void wearGrows() {
        HoleDeck deck = Check.deckOf("1", "2");
        for (int wear = 1; wear <= 25; wear++) {
            deck.pass(0, false);
            check.taken("WEAR", deck, deck.card(1, 18), wear);
        }
        deck.anew(1);
        deck.pass(0, false);
        check.taken("since it was punched ANEW", deck, deck.card(1, 18), 1);
        check.taken("of the other", deck, deck.card(0, 18), 26);
    }

    // ---- KEYS and PLANS

    private static void keyed(HoleDeck deck) {
        Twins.rich(deck);
        Check.fill(deck, 2, 1, 0, 8, 16, 23);
    }

    /** ordered(), plan(): TRAYS 0 to 3; "A KEY: 1 to 4 ITEMS". */
    private static void keyOfATray() {
        twins.span("items ordered", EdgePassesTest::keyed, 1, 4, (deck, many) -> deck.ordered(2, many));
        for (int many : new int[] {0, 5, -1, LEAST, MOST}) {
            twins.refused("plan of " + many, EdgePassesTest::keyed, deck -> deck.plan(2, many), 1);
        }
        for (int tray : new int[] {-1, 4, LEAST, MOST}) {
            twins.refused("ordered by TRAY " + tray, EdgePassesTest::keyed, deck -> deck.ordered(tray, 1), 1);
            twins.refused("plan by TRAY " + tray, EdgePassesTest::keyed, deck -> deck.plan(tray, 1), 1);
        }
        for (int tray = 0; tray < 4; tray++) {
            HoleDeck deck = Check.deckOf("2", "1");
            Check.fill(deck, tray, 0, 0);
            check.taken("ordered by TRAY " + tray, deck, deck.ordered(tray, 1), 0);
            check.taken("plan by TRAY " + tray, deck, deck.plan(tray, 1), 1);
        }
        twins.refused("ordered by a MISSING one", EdgePassesTest::keyed, deck -> deck.ordered(3, 1), 2);
        twins.refused("plan by a MISSING one", EdgePassesTest::keyed, deck -> deck.plan(3, 1), 2);
        for (int size = 0; size < 4; size++) {
            int least = size;
            Twins.Make make = deck -> {
                keyed(deck);
                deck.tray(2, 1, least);
            };
            twins.refused("ordered by one too few", make, deck -> deck.ordered(2, least + 1), 3);
            twins.refused("plan by one too few", make, deck -> deck.plan(2, least + 1), 3);
        }
    }

    /** "an ITEM is a COLUMN, and 8 times how it is taken: 0 .. 1 .. 2": 0 to 23, at each place of the KEY. */
    private static void itemsOfAKey() {
        for (int place = 0; place < 4; place++) {
            for (long bad : new long[] {-1, 24, Long.MIN_VALUE, Long.MAX_VALUE, 1L << 32}) {
                HoleDeck deck = new HoleDeck();
                deck.tray(0, 3, 4);
                deck.write(0, place, bad);
                check.refused("ordered by ITEM " + bad, deck, deck.ordered(0, place + 1), 5);
                check.refused("plan by ITEM " + bad, deck, deck.plan(0, place + 1), 5);
                if (place > 0) {
                    check.taken("not of the KEY: ordered", deck, deck.ordered(0, place), 1);
                    check.taken("not of the KEY: plan", deck, deck.plan(0, place), 0);
                }
                deck.write(0, place, 23);
                check.taken("ITEM 23", deck, deck.ordered(0, 4), 1);
                deck.write(0, place, 0);
                check.taken("ITEM 0", deck, deck.plan(0, 4), 0);
            }
        }
        for (int bad : new int[] {-1, 24}) {
            Twins.Make make = deck -> {
                keyed(deck);
                deck.write(2, 3, bad);
            };
            twins.refused("ordered by ITEM " + bad, make, deck -> deck.ordered(2, 4), 5);
            twins.refused("plan by ITEM " + bad, make, deck -> deck.plan(2, 4), 5);
        }
    }

    /** Whether a CARD that READS b there may lie behind one that READS a. */
    private static void pair(int item, int a, int b, boolean want) {
        HoleDeck deck = Check.deckOf("", "");
        int column = item % 8;
        deck.holes(0, column, Check.holesThatRead(a));
        deck.holes(1, column, Check.holesThatRead(b));
        Check.fill(deck, 0, 0, item);
        check.taken(a + " ahead of " + b + " by ITEM " + item, deck, deck.ordered(0, 1), want ? 1 : 0);
    }

    /** "1 that by 5, rounded down (BLANK, WRONG: 2)": each pair of what COLUMNS READ. */
    private static void itemsByFive() {
        for (int a = 0; a < 12; a++) {
            for (int b = 0; b < 12; b++) {
                int ofA = a > 9 ? 2 : a < 5 ? 0 : 1;
                int ofB = b > 9 ? 2 : b < 5 ? 0 : 1;
                pair(8, a, b, ofA <= ofB);
                pair(15, a, b, ofA <= ofB);
                pair(0, a, b, a <= b);
                pair(7, a, b, a <= b);
            }
        }
    }

    /** "2 its rest by 2 (BLANK, WRONG: 2)". */
    private static void itemsByTwo() {
        for (int a = 0; a < 12; a++) {
            for (int b = 0; b < 12; b++) {
                int ofA = a > 9 ? 2 : a & 1;
                int ofB = b > 9 ? 2 : b & 1;
                pair(16, a, b, ofA <= ofB);
                pair(23, a, b, ofA <= ofB);
            }
        }
    }

    /** No CARD, one CARD and like ones are in ORDER by any KEY. */
    private static void orderedOfFew() {
        for (String[] cards : new String[][] {{}, {"5"}, {"5", "5"}, {"x", "x", "x"}}) {
            HoleDeck deck = Check.deckOf(cards);
            Check.fill(deck, 0, 0, 0, 8, 16, 7);
            for (int many = 1; many <= 4; many++) {
                check.taken("ordered", deck, deck.ordered(0, many), 1);
                check.taken("plan", deck, deck.plan(0, many), 0);
            }
        }
        HoleDeck last = new HoleDeck();
        for (int card = 0; card < 30; card++) {
            Check.punch(last, card < 29 ? "5" : "4");
        }
        Check.fill(last, 0, 0, 0);
        check.taken("the last of thirty is the lesser", last, last.ordered(0, 1), 0);
        check.taken("and needs a PASS", last, last.plan(0, 1), 1);
    }

    /** "lesser ITEMS (the first that differ)"; "the first the most". */
    private static void orderedByFirstThatDiffer() {
        HoleDeck deck = Check.deckOf("1119", "1128", "1217", "2116");
        Check.fill(deck, 0, 0, 0, 1, 2, 3);
        check.taken("four ITEMS", deck, deck.ordered(0, 4), 1);
        deck.holes(0, 2, 4);
        check.taken("alike in three, the 4th is greater", deck, deck.ordered(0, 4), 0);
        check.taken("three alike", deck, deck.ordered(0, 3), 1);
        deck.holes(0, 2, 2);
        deck.holes(3, 0, 1);
        check.taken("the first ITEM of the last", deck, deck.ordered(0, 4), 0);
        check.taken("by it alone", deck, deck.ordered(0, 1), 0);
        HoleDeck like = Check.deckOf("12", "13");
        Check.fill(like, 0, 0, 0, 0, 1, 0);
        check.taken("one ITEM more than once", like, like.ordered(0, 4), 1);
    }

    /** ordered(), plan(): "(1, 2, 3, 5 ..; in this order)"; plan(): "6: not with five" last. */
    private static void keyStatusOrder() {
        HoleDeck deck = Check.deckOf("9", "5", "4", "1");
        Check.fill(deck, 1, 3, 24);
        Check.fill(deck, 2, 3, 8, 16, 99);
        for (int many : new int[] {0, 5}) {
            check.refused("1 ahead of 2: ordered", deck, deck.ordered(0, many), 1);
            check.refused("1 ahead of 2: plan", deck, deck.plan(0, many), 1);
            check.refused("1 ahead of 3, 5: ordered", deck, deck.ordered(1, many), 1);
            check.refused("1 ahead of 3, 5: plan", deck, deck.plan(1, many), 1);
        }
        check.refused("2: ordered", deck, deck.ordered(0, 4), 2);
        check.refused("2: plan", deck, deck.plan(0, 4), 2);
        check.refused("3 ahead of 5: ordered", deck, deck.ordered(1, 2), 3);
        check.refused("3 ahead of 5: plan", deck, deck.plan(1, 2), 3);
        check.refused("5 ahead of 6: plan", deck, deck.plan(2, 3), 5);
        check.refused("6: plan", deck, deck.plan(2, 2), 6);
    }

    /** "the fewest PASSES (0 to 5": none, if the DECK is in ORDER. */
    private static void planOfNone() {
        HoleDeck deck = Check.deckOf("1", "2", "3");
        Check.fill(deck, 0, 0, 0);
        check.taken("in ORDER", deck, deck.plan(0, 1), 0);
        check.refused("no first PASS", deck, deck.planned(0), 6);
        check.taken("no HANDS", deck, deck.planned(-1), 0);
    }

    /** A PLAN of one, two, three and four PASSES, the lesser ITEMS first. */
    private static void planOfEachLength() {
        for (int many = 1; many <= 4; many++) {
            HoleDeck deck = new HoleDeck();
            // behind each other so that no COLUMN of the KEY can be left out
            for (int card = (1 << many) - 1; card >= 0; card--) {
                StringBuilder reads = new StringBuilder();
                for (int column = 0; column < many; column++) {
                    reads.append(card >> (many - 1 - column) & 1);
                }
                Check.punch(deck, reads.toString());
            }
            deck.tray(0, 0, many);
            for (int item = 0; item < many; item++) {
                deck.write(0, item, item);
            }
            check.taken("so many PASSES", deck, deck.plan(0, many), many);
            for (int k = 0; k < many; k++) {
                check.taken("PASS " + k, deck, deck.planned(k), many - 1 - k);
            }
            check.taken("HANDS", deck, deck.planned(-1), 2 * many);
            check.refused("no more", deck, deck.planned(many), 6);
            for (int k = 0; k < many; k++) {
                deck.pass(deck.planned(k), false);
            }
            check.taken("in ORDER then", deck, deck.ordered(0, many), 1);
        }
    }

    private static void planOfThirtyCards() {
        HoleDeck deck = new HoleDeck();
        deck.tray(0, 1, 8);
        for (int card = 0; card < 30; card++) {
            deck.write(0, 0, 1 << card % 3);
            deck.write(0, 7, card < 15 ? 1024 : 1 << card % 10);
            deck.punch(0, 0, -1);
        }
        Check.fill(deck, 1, 0, 7, 0);
        check.taken("two PASSES", deck, deck.plan(1, 2), 2);
        check.taken("first", deck, deck.planned(0), 0);
        check.taken("second", deck, deck.planned(1), 7);
        check.taken("HANDS", deck, deck.planned(-1), 3 + 11);
        deck.pass(0, false);
        deck.pass(7, false);
        check.taken("in ORDER", deck, deck.ordered(1, 2), 1);
    }

    /** "of several the one with the fewest HANDS together". */
    private static void planWithFewestHands() {
        HoleDeck deck = Check.deckOf("52", "41", "32");
        // the ITEMS are two, but the PASS is by what the COLUMN READS, and that are three
        Check.fill(deck, 0, 0, 8, 9);
        check.taken("one PASS", deck, deck.plan(0, 2), 1);
        check.taken("COLUMN 0", deck, deck.planned(0), 0);
        check.taken("three HANDS", deck, deck.planned(-1), 3);
        HoleDeck fewer = Check.deckOf("7  x1", "6  x0", "8  x1");
        Check.fill(fewer, 0, 0, 0, 4);
        check.taken("one PASS by either", fewer, fewer.plan(0, 2), 1);
        check.taken("that by COLUMN 4 has fewer HANDS", fewer, fewer.planned(0), 4);
        check.taken("two", fewer, fewer.planned(-1), 2);
    }

    /** "of several the first row (by COLUMNS)", whatever the order of the KEY's ITEMS. */
    private static void planFirstRow() {
        HoleDeck deck = Check.deckOf("7  5", "6  4", "8  6");
        Check.fill(deck, 0, 0, 3, 0);
        check.taken("one PASS by either", deck, deck.plan(0, 2), 1);
        check.taken("COLUMN 0 comes first", deck, deck.planned(0), 0);
        Check.fill(deck, 0, 0, 0, 3);
        deck.plan(0, 2);
        check.taken("the other way round too", deck, deck.planned(0), 0);
    }

    /** plan(): "6: not with five". */
    private static void planThatIsNot() {
        Twins.Make make = deck -> {
            Twins.rich(deck);
            Check.fill(deck, 2, 1, 16);
        };
        twins.refused("odd ones come between", make, deck -> deck.plan(2, 1), 6);
        HoleDeck deck = Check.deckOf("1", "2");
        Check.fill(deck, 0, 0, 16, 0);
        check.refused("2 ahead of 1 by two, never by a PASS", deck, deck.plan(0, 2), 6);
        deck.exchange(0, 1);
        check.taken("as it lies it is in ORDER", deck, deck.plan(0, 2), 0);
    }

    /** "Nothing goes through for a PLAN." */
    private static void planChangesNothing() {
        HoleDeck deck = Check.deckOf("21", "12", "11");
        Check.fill(deck, 0, 0, 0, 1);
        check.taken("two PASSES", deck, deck.plan(0, 2), 2);
        check.lies("as it lay", deck, "0 1 2");
        check.taken("no HOURS", deck, deck.many(3), 0);
        check.taken("no WEAR", deck, deck.card(0, 18), 0);
        check.taken("the same again", deck, deck.plan(0, 2), 2);
    }

    /** planned(): "k NONE: HANDS together (1: below NONE; 6)". */
    private static void plannedAtItsEnds() {
        twins.refused("below NONE", Twins::rich, deck -> deck.planned(-2), 1);
        twins.refused("the least", Twins::rich, deck -> deck.planned(LEAST), 1);
        twins.refused("behind the last of two", Twins::rich, deck -> deck.planned(2), 6);
        twins.refused("the most", Twins::rich, deck -> deck.planned(MOST), 6);
        HoleDeck deck = new HoleDeck();
        Twins.rich(deck);
        check.taken("HANDS", deck, deck.planned(-1), 7);
        check.taken("the first", deck, deck.planned(0), 0);
        check.taken("the last", deck, deck.planned(1), 6);
        HoleDeck fresh = new HoleDeck();
        check.refused("ahead of any: HANDS", fresh, fresh.planned(-1), 6);
        check.refused("ahead of any: a PASS", fresh, fresh.planned(0), 6);
        check.refused("1 ahead of 6", fresh, fresh.planned(-2), 1);
    }

    /** "plan() latest with STATUS 0": refused ones, ordered() and PASSES leave it. */
    private static void plannedOfTheLatest() {
        HoleDeck deck = Check.deckOf("1", "2", "0");
        Check.fill(deck, 0, 0, 0, 16);
        deck.plan(0, 1);
        check.taken("HANDS", deck, deck.planned(-1), 3);
        Check.fill(deck, 1, 0, 16, 0);
        check.refused("none with five", deck, deck.plan(1, 2), 6);
        check.refused("no KEY", deck, deck.plan(0, 5), 1);
        deck.ordered(1, 1);
        deck.pass(0, false);
        Check.punch(deck, "9");
        check.taken("the same HANDS", deck, deck.planned(-1), 3);
        check.taken("the same PASS", deck, deck.planned(0), 0);
        check.taken("in ORDER now", deck, deck.plan(0, 1), 0);
        check.taken("no HANDS", deck, deck.planned(-1), 0);
        check.refused("no PASS", deck, deck.planned(0), 6);
    }

    // ---- FIELDS and SUMS

    private static void digits(HoleDeck deck) {
        Twins.rich(deck);
        Check.punchBy(deck, 2, "12345678", 0, 0);
    }

    /** "A FIELD: COLUMNS a to b (at most 6)"; "a FIELD with b below a". */
    private static void fieldsOfOneToSix() {
        twins.fields("field", EdgePassesTest::digits, (deck, a, b) -> deck.field(5, a, b));
        twins.fields("sum", EdgePassesTest::digits, (deck, a, b) -> deck.sum(a, b, 9, 0));
        twins.fields("pocket", EdgePassesTest::digits, (deck, a, b) -> deck.pocket(0, 1, a, b, 0));
        twins.fields("collate", EdgePassesTest::digits, (deck, a, b) -> deck.collate(a, b));
        twins.fields("matched", EdgePassesTest::digits, (deck, a, b) -> deck.matched(a, b, 0));
        twins.span("field of CARD", EdgePassesTest::digits, 0, 5, (deck, card) -> deck.field(card, 0, 1));
        HoleDeck deck = Check.deckOf("12345678", "99999999", "00000000");
        int[] ten = {1, 10, 100, 1000, 10000, 100000, 1000000};
        for (int a = 0; a < 8; a++) {
            int want = 0;
            for (int b = a; b < 8 && b < a + 6; b++) {
                want = 10 * want + b + 1;
                check.taken("FIELD " + a + " to " + b, deck, deck.field(0, a, b), want);
                check.taken("all 9", deck, deck.field(1, a, b), ten[b - a + 1] - 1);
                check.taken("all 0", deck, deck.field(2, a, b), 0);
            }
        }
    }

    /** "BLANK counts as 0; of a CARD with a WRONG one there it is none" (6). */
    private static void fieldBlankAndWrong() {
        HoleDeck deck = Check.deckOf("", " 1 2 3", "12x456");
        check.taken("all BLANK", deck, deck.field(0, 0, 5), 0);
        check.taken("BLANKS between", deck, deck.field(1, 0, 5), 10203);
        check.refused("WRONG within", deck, deck.field(2, 0, 5), 6);
        check.refused("WRONG at its end", deck, deck.field(2, 0, 2), 6);
        check.refused("WRONG at its beginning", deck, deck.field(2, 2, 5), 6);
        check.refused("WRONG alone", deck, deck.field(2, 2, 2), 6);
        check.taken("ahead of it", deck, deck.field(2, 0, 1), 12);
        check.taken("behind it", deck, deck.field(2, 3, 5), 456);
        check.refused("1 ahead of 6", deck, deck.field(2, 2, 1), 1);
        twins.refused("a FIELD that is none", Twins::rich, one -> one.field(1, 2, 2), 6);
    }

    /** "A WHEEL has 1 to 9 places"; what 0 and 1. */
    private static void wheels() {
        twins.span("places", Twins::rich, 1, 9, (deck, places) -> deck.sum(0, 1, places, 0));
        twins.span("places of RUNS", Twins::rich, 1, 9, (deck, places) -> deck.sum(0, 1, places, 1));
        twins.span("what of a SUM", Twins::rich, 0, 1, (deck, what) -> deck.sum(0, 1, 1, what));
    }

    /** "RUNS: how often it went over (the whole sum by 10 to the places, rounded down)". */
    private static void wheelsThatRunOver() {
        HoleDeck deck = Check.deckOf("99", "");
        sums(deck, 0, 1, 2, 99, 0);
        deck.holes(1, 1, 2);
        sums(deck, 0, 1, 2, 0, 1);
        sums(deck, 0, 1, 1, 0, 10);
        sums(deck, 0, 1, 3, 100, 0);
        deck.holes(1, 1, 4);
        sums(deck, 0, 1, 2, 1, 1);
        HoleDeck full = new HoleDeck();
        Check.fill(full, 0, 1, 512, 512, 512, 512, 512, 512, 512, 512);
        for (int card = 0; card < 30; card++) {
            full.punch(0, 0, -1);
        }
        long whole = 30L * 999999;
        long ten = 1;
        for (int places = 1; places <= 9; places++) {
            ten *= 10;
            sums(full, 2, 7, places, (int) (whole % ten), (int) (whole / ten));
        }
    }

    private static void sums(HoleDeck deck, int a, int b, int places, int sum, int runs) {
        check.taken("SUM on " + places, deck, deck.sum(a, b, places, 0), sum);
        check.taken("RUNS on " + places, deck, deck.sum(a, b, places, 1), runs);
    }

    private static void sumOfNoCards() {
        HoleDeck deck = new HoleDeck();
        for (int places = 1; places <= 9; places++) {
            sums(deck, 0, 5, places, 0, 0);
        }
    }

    /** "and it counts as 0 in sums". */
    private static void sumCountsNone() {
        HoleDeck deck = Check.deckOf("15", "x5", "1x", "  ", " 5");
        sums(deck, 0, 1, 9, 20, 0);
        sums(deck, 0, 0, 9, 2, 0);
        sums(deck, 1, 1, 9, 15, 0);
        sums(Check.deckOf("x"), 0, 0, 1, 0, 0);
    }

    /** pocket(): "how many CARDS READ so there (0 to 11)". */
    private static void pocketsZeroToEleven() {
        twins.span("pocket of COLUMN", Twins::rich, 0, 7, (deck, column) -> deck.pocket(column, 1, 0, 1, 0));
        twins.span("pocket", Twins::rich, 0, 11, (deck, reads) -> deck.pocket(0, reads, 0, 1, 0));
        twins.span("what of a pocket", Twins::rich, 0, 1, (deck, what) -> deck.pocket(0, 1, 0, 1, what));
        HoleDeck deck = all(7);
        for (int reads = 0; reads < 12; reads++) {
            check.taken("one READS " + reads, deck, deck.pocket(7, reads, 7, 7, 0), 1);
            check.taken("its sum", deck, deck.pocket(7, reads, 7, 7, 1), reads < 10 ? reads : 0);
            check.taken("all are BLANK in COLUMN 0", deck, deck.pocket(0, reads, 0, 0, 0), reads == 10 ? 12 : 0);
        }
        HoleDeck empty = new HoleDeck();
        check.taken("no CARDS", empty, empty.pocket(0, 10, 0, 0, 0), 0);
        check.taken("no sum", empty, empty.pocket(0, 10, 0, 0, 1), 0);
    }

    /** "the whole sum of a FIELD of these": of a WRONG one it counts as 0. */
    private static void pocketSums() {
        HoleDeck deck = new HoleDeck();
        Check.fill(deck, 0, 1, 1, 1, 512, 512, 512, 512, 512, 512);
        for (int card = 0; card < 30; card++) {
            deck.punch(0, 0, -1);
        }
        check.taken("thirty", deck, deck.pocket(0, 0, 2, 7, 0), 30);
        check.taken("the greatest sum", deck, deck.pocket(0, 0, 2, 7, 1), 29999970);
        deck.holes(29, 7, 3);
        check.taken("one that is none", deck, deck.pocket(0, 0, 2, 7, 1), 29999970 - 999999);
        check.taken("counts as a CARD", deck, deck.pocket(0, 0, 2, 7, 0), 30);
        deck.holes(0, 0, 2);
        check.taken("one of another pocket", deck, deck.pocket(0, 0, 2, 7, 1), 29999970 - 2 * 999999);
        check.taken("it alone", deck, deck.pocket(0, 1, 2, 7, 1), 999999);
    }

    // ---- COLLATED, MATCHED

    private static void collated(String reads, String inks, int behind, String want) {
        HoleDeck deck = Check.inked(reads, inks);
        check.taken("collate " + reads + " in " + inks, deck, deck.collate(0, 0), behind);
        check.lies("collate " + reads + " in " + inks, deck, want);
        check.taken("no HOURS", deck, deck.many(3), 0);
        for (int card = 0; card < reads.length(); card++) {
            check.taken("no WEAR", deck, deck.card(card, 18), 0);
        }
    }

    /** "as long as there are both"; "then those that are left". */
    private static void collateEdges() {
        collated("", "", 0, "");
        collated("5", "0", 0, "0");
        collated("5", "1", 0, "0");
        collated("5", "-", 1, "0");
        collated("x", "0", 1, "0");
        collated("321", "000", 0, "0 1 2");
        collated("321", "111", 0, "0 1 2");
        collated("91", "01", 0, "1 0");
        collated("9876", "0011", 0, "2 3 0 1");
        collated("6789", "1100", 0, "0 1 2 3");
        collated("192837", "010101", 0, "0 2 4 1 3 5");
        collated(" 0", "10", 0, "1 0");
        HoleDeck deck = new HoleDeck();
        deck.tray(0, 1, 8);
        for (int card = 0; card < 30; card++) {
            deck.write(0, 0, 1 << card / 3);
            deck.punch(0, 0, card < 15 ? 1 : 0);
        }
        check.taken("thirty", deck, deck.collate(0, 0), 0);
        for (int place = 0; place < 30; place++) {
            check.taken("INK 1 has the lesser ones", deck, deck.lies(place), place);
        }
    }

    /** "(of like ones that in INK 0)". */
    private static void collateOfLikeNumbers() {
        collated("55", "10", 0, "1 0");
        collated("55", "01", 0, "0 1");
        collated("5555", "1010", 0, "1 3 0 2");
        collated("4455", "1010", 0, "1 0 3 2");
    }

    /** "(in none: behind all others, as they lie; so are those whose FIELD is none)". */
    private static void collateBehind() {
        collated("1x2x3", "-0-1-", 5, "0 1 2 3 4");
        collated("1x2x39", "-0-1-0", 5, "5 0 1 2 3 4");
        collated("x9x87", "01-10", 2, "4 1 3 0 2");
    }

    /** matched(): what 0 to 2; no CARDS, one INK alone, NUMBERS told once. */
    private static void matchedEdges() {
        twins.span("what of MATCHED", Twins::rich, 0, 2, (deck, what) -> deck.matched(0, 1, what));
        matched("", "", 0, 0, 0);
        matched("5", "0", 0, 1, 0);
        matched("5", "1", 0, 0, 1);
        matched("5", "-", 0, 0, 0);
        matched("x", "0", 0, 0, 0);
        matched("xx", "01", 0, 0, 0);
        matched("55", "01", 1, 0, 0);
        matched("5555", "0011", 1, 0, 0);
        matched("5566", "0011", 0, 1, 1);
        matched(" 0", "01", 1, 0, 0);
        matched("555", "0--", 0, 1, 0);
        matched("0123456789", "0101010101", 0, 5, 5);
        matched("01234567890123456789", "00000000001111111111", 10, 0, 0);
    }

    private static void matched(String reads, String inks, int both, int zero, int one) {
        HoleDeck deck = Check.inked(reads, inks);
        check.taken("both of " + reads, deck, deck.matched(0, 0, 0), both);
        check.taken("INK 0 of " + reads, deck, deck.matched(0, 0, 1), zero);
        check.taken("INK 1 of " + reads, deck, deck.matched(0, 0, 2), one);
    }
}
