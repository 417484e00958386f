/** Promises 29 to 31 and section 4b at their edges: each sentence has a test of its own. */
public final class EdgeRunsTest {
    private static final Check check = new Check();
    private static final Twins twins = new Twins(check);
    private static final int LEAST = Integer.MIN_VALUE;
    private static final int MOST = Integer.MAX_VALUE;
    /** 199 STEPS are done: 1 + 9 * (1 + 7 * 3). */
    private static final String ALL_BUT_ONE = "loop 9;loop 7;turn;turn;turn;end;end;";

    public static void main(String[] args) {
        bytesOfARun();
        threeHundredBytes();
        emptiesTheTape();
        faultLeavesTheOld();
        takenInPlaceOfTheOld();
        emptyRun();
        columnsOfPass();
        stopsOfPass();
        numbersOfPut();
        numbersOfCut();
        numbersOfAdd();
        numbersOfLoop();
        numbersOfWhen();
        textsEnd();
        everyByte();
        endWithoutALoop();
        endAheadOfTheTextsEnd();
        threeWithin();
        fortySteps();
        leastKind();
        passStep();
        putStep();
        cutStep();
        turnStep();
        addStep();
        registerBegins();
        loopStep();
        whenStep();
        stepsCounted();
        twoHundredSteps();
        someLeft();
        ranAtItsEnds();
        check.end();
    }

    private static void fault(String text, int kind, int place) {
        check.fault(text, false, kind, place);
    }

    private static HoleDeck taken(String text, int steps) {
        HoleDeck deck = new HoleDeck();
        check.taken("\"" + text + "\"", deck, Check.program(deck, text), steps);
        check.due("\"" + text + "\" has no FAULT", deck.fault(0), 0);
        check.due("\"" + text + "\" has no place of one", deck.fault(1), -1);
        return deck;
    }

    // ---- the text

    /** program(): "(1: n below 0, or more than the tape has". */
    private static void bytesOfARun() {
        Twins.Make make = deck -> {
            Twins.rich(deck);
            deck.book(0);
            Check.feed(deck, "turn;".repeat(8));
        };
        twins.span("program of", make, 0, 40, (deck, n) -> deck.program(n));
        for (int n : new int[] {-1, 41, LEAST, MOST}) {
            twins.refused("program of " + n, Twins::rich, deck -> deck.program(n), 1);
        }
        HoleDeck deck = new HoleDeck();
        Check.feed(deck, "turn;turn;?         ");
        check.taken("what stands behind them is not of it", deck, deck.program(10), 2);
        Check.feed(deck, "turn;turn;?         ");
        check.refused("one byte more", deck, deck.program(11), 9);
        Check.feed(deck, "????");
        check.taken("0 bytes", deck, deck.program(0), 0);
        check.refused("of an empty tape", deck, deck.program(1), 1);
        check.taken("0 of an empty one", deck, deck.program(0), 0);
    }

    /** "A RUN is a TEXT of at most 300 bytes"; "or above 300". */
    private static void threeHundredBytes() {
        for (int n = 299; n <= 301; n++) {
            HoleDeck deck = new HoleDeck();
            Check.feed(deck, " ".repeat(295) + "turn;" + " ".repeat(100));
            check.due("the first " + n, deck.program(n), n > 300 ? -1 : n == 300 ? 1 : -1);
            check.due("the first " + n + ", STATUS", deck.status(), n > 300 ? 1 : n == 300 ? 0 : 9);
        }
        Twins.Make make = deck -> {
            Twins.rich(deck);
            deck.book(0);
            Check.feed(deck, " ".repeat(500));
        };
        twins.refused("301 of 500", make, deck -> deck.program(301), 1);
        twins.refused("500 of 500", make, deck -> deck.program(500), 1);
        twins.refused("501 of 500", make, deck -> deck.program(501), 1);
        HoleDeck deck = new HoleDeck();
        Check.feed(deck, "?".repeat(400));
        check.refused("1 ahead of 9", deck, deck.program(301), 1);
        check.due("no FAULT was told", deck.fault(0), -1);
        check.taken("a BOOK may be longer", deck, bookOfBlanks(deck), 0);
    }

    private static int bookOfBlanks(HoleDeck deck) {
        deck.book(0);
        Check.feed(deck, " ".repeat(400));
        return deck.book(400);
    }

    /** "(which is empty then)". */
    private static void emptiesTheTape() {
        for (int n : new int[] {0, 5, 20}) {
            HoleDeck deck = new HoleDeck();
            Check.feed(deck, "turn;turn;turn;turn;");
            check.taken("program of " + n, deck, deck.program(n), n / 5);
            check.refused("nothing is left", deck, deck.program(1), 1);
            check.due("the tape begins anew", deck.feed(0, 0, 0, 0, 0), 20);
        }
        HoleDeck both = new HoleDeck();
        Check.feed(both, "code a year 1;turn; ");
        check.refused("a FAULT empties it, too", both, both.program(20), 9);
        check.refused("for a BOOK, too", both, both.book(1), 1);
    }

    /** "9: the old one stays". */
    private static void faultLeavesTheOld() {
        twins.faulty("a RUN with a FAULT", Twins::rich, deck -> deck.program(40));
        twins.faulty("a RUN with a FAULT at its end", deck -> {
            Twins.rich(deck);
            deck.book(0);
            Check.feed(deck, "cut 1;loop 2;turn;pass 0;end;end;       ");
        }, deck -> deck.program(40));
    }

    private static void takenInPlaceOfTheOld() {
        HoleDeck deck = new HoleDeck();
        check.taken("three", deck, Check.program(deck, "loop 2;turn;turn;end;"), 3);
        check.taken("five are done", deck, deck.run(), 5);
        check.taken("one", deck, Check.program(deck, "turn;"), 1);
        check.taken("one is done", deck, deck.run(), 1);
        check.taken("none", deck, deck.program(0), 0);
        check.taken("none is done", deck, deck.run(), 0);
    }

    /** "(the empty one at first)". */
    private static void emptyRun() {
        HoleDeck deck = Check.deckOf("2", "1");
        check.taken("nothing is done", deck, deck.run(), 0);
        check.lies("as it lay", deck, "0 1");
        check.taken("REGISTER 0", deck, deck.ran(0), 0);
        check.taken("no HANDS", deck, deck.ran(1), 0);
        check.taken("not over", deck, deck.ran(2), 0);
        taken("", 0);
        taken(" \n", 0);
    }

    // ---- NUMBERS of STEPS

    /** "pass c": COLUMNS 0 to 7. */
    private static void columnsOfPass() {
        for (int column = 0; column < 8; column++) {
            taken("pass " + column + ";", 1);
            taken("pass " + column + " stops;", 1);
        }
        fault("pass 8;", 4, 5);
        fault("pass 999 stops;", 4, 5);
        fault("pass 1000;", 1, 5);
        fault("pass ;", 2, 5);
        fault("pass stops;", 2, 5);
        fault("pass -1;", 1, 5);
    }

    /** "pass NUMBER [stops] ;". */
    private static void stopsOfPass() {
        fault("pass 1 stop;", 2, 7);
        fault("pass 1 stopss;", 2, 7);
        fault("pass 1 stops stops;", 2, 13);
        fault("pass 1 stops 1;", 2, 13);
        fault("pass 1 1;", 2, 7);
        fault("put 1 1 stops;", 2, 8);
        fault("turn stops;", 2, 5);
        fault("stops;", 2, 0);
    }

    /** "put c v: .. (0 to 11)". */
    private static void numbersOfPut() {
        taken("put 0 0;", 1);
        taken("put 7 11;", 1);
        fault("put 8 0;", 4, 4);
        fault("put 0 12;", 4, 6);
        fault("put 8 12;", 4, 4);
        fault("put 7 999;", 4, 6);
        fault("put 7 1000;", 1, 6);
        fault("put 7;", 2, 5);
        fault("put;", 2, 3);
        fault("put 7 1 1;", 2, 8);
    }

    /** "cut n (0 to 99)". */
    private static void numbersOfCut() {
        taken("cut 0;", 1);
        taken("cut 99;", 1);
        taken("cut 099;", 1);
        fault("cut 100;", 4, 4);
        fault("cut 999;", 4, 4);
        fault("cut 1000;", 1, 4);
        fault("cut;", 2, 3);
        fault("cut 1 1;", 2, 6);
        fault("turn 1;", 2, 5);
    }

    /** "(of add: at the second one, if both are no FIELD)"; the first one has to be a COLUMN. */
    private static void numbersOfAdd() {
        for (int a = 0; a < 8; a++) {
            for (int b = 0; b < 10; b++) {
                if (b >= a && b < 8 && b - a < 6) {
                    taken("add " + a + " " + b + ";", 1);
                } else {
                    fault("add " + a + " " + b + ";", 4, 6);
                }
            }
        }
        fault("add 8 8;", 4, 4);
        fault("add 8 1;", 4, 4);
        fault("add 999 1;", 4, 4);
        fault("add 1 999;", 4, 6);
        fault("add 1000 1;", 1, 4);
        fault("add 1 1000;", 1, 6);
        fault("add 1;", 2, 5);
        fault("add 7", 2, 5);
        fault("add;", 2, 3);
        fault("add 1 2 3;", 2, 8);
    }

    /** "loop n (1 to 9)". */
    private static void numbersOfLoop() {
        for (int times = 1; times <= 9; times++) {
            taken("loop " + times + ";end;", 1);
        }
        fault("loop 0;end;", 4, 5);
        fault("loop 10;end;", 4, 5);
        fault("loop 000;end;", 4, 5);
        fault("loop 999;end;", 4, 5);
        fault("loop 1000;end;", 1, 5);
        fault("loop;end;", 2, 4);
        fault("loop 1 1;end;", 2, 7);
        fault("loop 1 end;", 2, 7);
    }

    /** "when c v". */
    private static void numbersOfWhen() {
        taken("when 0 0;end;", 1);
        taken("when 7 11;end;", 1);
        fault("when 8 0;end;", 4, 5);
        fault("when 0 12;end;", 4, 7);
        fault("when 8 12;end;", 4, 5);
        fault("when 0;end;", 2, 6);
        fault("when;end;", 2, 4);
        fault("when 0 0 0;end;", 2, 9);
    }

    // ---- FAULTS

    /** "the end: the text's length": a RUN cut anywhere. */
    private static void textsEnd() {
        String text = "pass 1 stops;put 1 2;cut 3;turn;add 1 2;loop 2;when 3 4;end;end;turn;";
        int opens = text.indexOf("loop");
        int ends = text.lastIndexOf("end;") + 4;
        for (int n = 1; n < text.length(); n++) {
            HoleDeck deck = new HoleDeck();
            Check.feed(deck, text);
            int got = deck.program(n);
            boolean whole = text.charAt(n - 1) == ';' && (n <= opens || n >= ends);
            check.due("cut at " + n, got >= 0, whole);
            check.due("cut at " + n + ", STATUS", deck.status(), whole ? 0 : 9);
            String rest = text.substring(0, n);
            int last = Math.max(rest.lastIndexOf(' '), rest.lastIndexOf(';')) + 1;
            boolean wordCut = Character.isLetter(text.charAt(n - 1)) && Character.isLetter(text.charAt(n));
            check.due("cut at " + n + ", FAULT", deck.fault(0), whole ? 0 : 2);
            check.due("cut at " + n + ", place", deck.fault(1), whole ? -1 : wordCut ? last : n);
        }
        fault("turn" + " ".repeat(296), 2, 300);
    }

    /** "1 and 2 as of a BOOK": each of the 256 bytes at the text's beginning. */
    private static void everyByte() {
        for (int sign = 0; sign < 256; sign++) {
            HoleDeck deck = new HoleDeck();
            deck.feed(sign << 24, 0, 0, 0, 0);
            boolean blank = sign == 10 || sign == 32;
            boolean token = sign >= 'a' && sign <= 'z' || sign >= '0' && sign <= '9' || sign == ';';
            check.due("byte " + sign, deck.program(1), blank ? 0 : -1);
            check.due("byte " + sign + ", FAULT", deck.fault(0), blank ? 0 : token ? 2 : 1);
            check.due("byte " + sign + ", place", deck.fault(1), blank ? -1 : 0);
        }
        for (String word : new String[] {"code", "year", "mean", "holes", "join", "pas", "passs", "turns", "en"}) {
            fault(word + ";", 2, 0);
        }
        fault("abcdefghi;", 2, 0);
        taken("pass0stops;put1 2;cut3;turn;add1 2;loop2;when3 4;end;end;", 7);
    }

    /** "an end without a loop or when .. 2". */
    private static void endWithoutALoop() {
        fault("end;", 2, 0);
        fault("turn;end;", 2, 5);
        fault("loop 1;end;end;", 2, 11);
        fault("when 0 0;loop 1;end;end; end;", 2, 25);
        fault("loop 1;end turn;", 2, 11);
        fault("loop 1;end 1;", 2, 11);
    }

    /** "the text's end ahead of an end: 2". */
    private static void endAheadOfTheTextsEnd() {
        fault("loop 1;", 2, 7);
        fault("when 0 0;", 2, 9);
        fault("loop 1; \n", 2, 9);
        fault("loop 1;when 0 0;end;", 2, 20);
        fault("loop 1;turn;turn;", 2, 17);
        fault("loop 1;end", 2, 10);
    }

    /** "5 a loop, a when within three others (at its WORD)". */
    private static void threeWithin() {
        String[] openers = {"loop 1;", "when 0 0;"};
        for (int mask = 0; mask < 8; mask++) {
            String three = openers[mask & 1] + openers[mask >> 1 & 1] + openers[mask >> 2];
            taken(three + "turn;end;end;end;", 4);
            taken(three + "end;" + openers[mask & 1] + "end;end;end;", 4);
            fault(three + "loop 1;end;end;end;end;", 5, three.length());
            fault(three + "when 0 0;end;end;end;end;", 5, three.length());
            fault(three + "turn;loop", 5, three.length() + 5);
            fault(three + "turn;when ?", 5, three.length() + 5);
            fault(three + "end;end;end;end;", 2, three.length() + 12);
        }
    }

    /** "6 a 41st STEP (at its WORD; end is none)". */
    private static void fortySteps() {
        String forty = "turn;".repeat(40);
        taken(forty, 40);
        for (String word : new String[] {"pass", "put", "cut", "turn", "add", "loop", "when"}) {
            fault(forty + word, 6, 200);
            fault(forty + " " + word + " ?", 6, 201);
        }
        fault(forty + "end;", 2, 200);
        fault(forty + "stops;", 2, 200);
        fault(forty + "?", 1, 200);
        taken("loop 1;" + "turn;".repeat(39) + "end;", 40);
        fault("loop 1;" + "turn;".repeat(39) + "end;turn;", 6, 206);
        fault("loop 1;" + "turn;".repeat(39) + "turn;end;", 6, 202);
        taken("loop1;".repeat(3) + "turn;".repeat(37) + "end;".repeat(3), 40);
        String loops = "loop1;end;".repeat(29);
        HoleDeck deck = taken(loops + "turn;", 30);
        check.taken("all are done", deck, deck.run(), 30);
    }

    /** "(of one TOKEN the least kind)": 5 ahead of 6, 1 ahead of 4, 2 ahead of 6. */
    private static void leastKind() {
        String full = "loop 1;loop 1;loop 1;" + "turn;".repeat(37);
        fault(full + "loop 1;", 5, full.length());
        fault(full + "when 0 0;", 5, full.length());
        fault(full + "turn;", 6, full.length());
        fault(full + "ends;", 2, full.length());
        fault(full, 2, full.length());
        taken(full + "end;end;end;", 40);
        fault("cut 1000;", 1, 4);
    }

    // ---- STEPS

    private static void does(String text, String[] cards, String want) {
        HoleDeck deck = Check.deckOf(cards);
        check.taken(text, deck, Check.program(deck, text), 1);
        check.taken(text, deck, deck.run(), 1);
        check.lies(text, deck, want);
    }

    /** "pass c: a PASS by COLUMN c (with stops it STOPS at blanks)". */
    private static void passStep() {
        does("pass 0;", new String[] {}, "");
        does("pass 0 stops;", new String[] {}, "");
        does("pass 0;", new String[] {"2", " ", "1"}, "2 0 1");
        does("pass 0 stops;", new String[] {"2", "1", " ", "0"}, "1 0 2 3");
        HoleDeck deck = Check.deckOf("2       ", " ", "1");
        Check.program(deck, "pass 0 stops;pass 7;pass 0;");
        deck.run();
        check.taken("HANDS of all its PASSES together", deck, deck.ran(1), 2 + 1 + 3);
        check.taken("HOURS", deck, deck.many(3), 1 + 10 + 3 + 5 + 3 + 15);
        check.taken("WEAR", deck, deck.card(0, 18), 3);
        check.taken("WEAR of one that did not go through", deck, deck.card(1, 18), 2);
    }

    /** "put c v: all CARDS whose COLUMN c READS v (0 to 11) come behind all others, as they lie". */
    private static void putStep() {
        String[] cards = {"0", "9", " ", "x", "0", "9"};
        does("put 0 0;", new String[] {}, "");
        does("put 0 0;", cards, "1 2 3 5 0 4");
        does("put 0 9;", cards, "0 2 3 4 1 5");
        does("put 0 10;", cards, "0 1 3 4 5 2");
        does("put 0 11;", cards, "0 1 2 4 5 3");
        does("put 0 5;", cards, "0 1 2 3 4 5");
        does("put 7 10;", cards, "0 1 2 3 4 5");
        HoleDeck deck = Check.deckOf(cards);
        Check.program(deck, "put 0 0;");
        deck.run();
        check.taken("no HOURS", deck, deck.many(3), 0);
        check.taken("no WEAR", deck, deck.card(0, 18), 0);
    }

    /** "cut n (0 to 99): the first n CARDS .. (all, if there are not so many: nothing changes)". */
    private static void cutStep() {
        String[] cards = {"1", "2", "3", "4"};
        does("cut 1;", new String[] {}, "");
        does("cut 0;", cards, "0 1 2 3");
        does("cut 1;", cards, "1 2 3 0");
        does("cut 3;", cards, "3 0 1 2");
        does("cut 4;", cards, "0 1 2 3");
        does("cut 5;", cards, "0 1 2 3");
        does("cut 99;", cards, "0 1 2 3");
        HoleDeck deck = new HoleDeck();
        deck.tray(0, 0, 8);
        for (int card = 0; card < 30; card++) {
            deck.punch(0, 0, -1);
        }
        Check.program(deck, "cut 29;");
        deck.run();
        check.taken("29 of thirty", deck, deck.lies(0), 29);
        check.taken("the first is the second", deck, deck.lies(1), 0);
        Check.program(deck, "cut 30;");
        deck.run();
        check.taken("all thirty", deck, deck.lies(0), 29);
    }

    /** "turn: the DECK lies the other way round". */
    private static void turnStep() {
        does("turn;", new String[] {}, "");
        does("turn;", new String[] {"1"}, "0");
        does("turn;", new String[] {"1", "2"}, "1 0");
        does("turn;", new String[] {"1", "2", "3"}, "2 1 0");
    }

    /** "add a b: the whole sum of FIELD a to b is added to the REGISTER". */
    private static void addStep() {
        HoleDeck deck = new HoleDeck();
        Check.program(deck, "add 0 5;");
        deck.run();
        check.taken("no CARDS", deck, deck.ran(0), 0);
        Check.fill(deck, 0, 1, 512, 512, 512, 512, 512, 512, 512, 512);
        for (int card = 0; card < 30; card++) {
            deck.punch(0, 0, -1);
        }
        deck.run();
        check.taken("the greatest sum", deck, deck.ran(0), 29999970);
        Check.program(deck, "loop 9;loop 9;loop 9;add 2 7;end;end;end;");
        deck.run();
        check.taken("above what an int holds", deck, deck.ran(0), 176L * 29999970);
        deck.holes(29, 2, 3);
        Check.program(deck, "add 2 7;add 3 7;");
        deck.run();
        check.taken("one that is none", deck, deck.ran(0), 29L * 999999 + 30L * 99999);
    }

    /** "(0 when a RUN begins)". */
    private static void registerBegins() {
        HoleDeck deck = Check.deckOf("5");
        Check.program(deck, "add 0 0;");
        deck.run();
        deck.run();
        check.taken("not 10", deck, deck.ran(0), 5);
        deck.program(0);
        check.taken("that of run() latest", deck, deck.ran(0), 5);
        deck.run();
        check.taken("0", deck, deck.ran(0), 0);
    }

    private static void done(String text, int steps, int left, String... cards) {
        HoleDeck deck = Check.deckOf(cards);
        Check.program(deck, text);
        check.taken(text + " does", deck, deck.run(), steps);
        check.taken(text + " leaves", deck, deck.ran(2), left);
    }

    /** "loop n (1 to 9): the STEPS up to its end are done n times". */
    private static void loopStep() {
        for (int times = 1; times <= 9; times++) {
            done("loop " + times + ";turn;end;", 1 + times, 0);
            done("loop " + times + ";end;", 1, 0);
            done("loop " + times + ";loop 2;turn;end;end;", 1 + times * 3, 0);
            HoleDeck deck = Check.deckOf("1", "2", "3", "4", "5", "6", "7");
            Check.program(deck, "loop " + times + ";cut 1;end;");
            deck.run();
            check.taken("the first then", deck, deck.lies(0), times % 7);
        }
        done("loop 2;loop 2;loop 2;turn;end;turn;end;turn;end;", 1 + 2 * (1 + 2 * (1 + 2 + 1) + 1), 0);
        done("loop 3;turn;end;loop 2;turn;end;", 1 + 3 + 1 + 2, 0);
    }

    /** "when c v: they are done, if there is a CARD, and COLUMN c of the first one READS v". */
    private static void whenStep() {
        done("when 0 5;turn;end;", 2, 0, "5");
        done("when 0 5;turn;end;", 1, 0, "4", "5");
        done("when 0 5;turn;end;", 2, 0, "5", "4");
        done("when 7 9;turn;end;", 2, 0, "       9");
        done("when 0 10;turn;end;", 2, 0, " ");
        done("when 0 11;turn;end;", 2, 0, "x");
        done("when 0 0;turn;end;", 2, 0, "0");
        for (int reads = 0; reads < 12; reads++) {
            done("when 0 " + reads + ";turn;end;", 1, 0);
        }
        done("when 0 5;end;turn;", 2, 0, "5");
        done("when 0 5;when 0 4;turn;end;end;turn;", 3, 0, "5");
        HoleDeck deck = Check.deckOf("1", "2", "3");
        Check.program(deck, "when 0 1;turn;end;when 0 3;cut 1;end;when 0 1;cut 1;end;");
        check.taken("the first one as it lies then", deck, deck.run(), 5);
        check.lies("turned and cut", deck, "1 0 2");
        HoleDeck turned = Check.deckOf("1", "2");
        turned.exchange(0, 1);
        Check.program(turned, "when 0 2;turn;end;");
        check.taken("the first of the DECK, not CARD 0", turned, turned.run(), 2);
    }

    // ---- RAN

    /** "(loop, when count as one each time they are come to; end does not)". */
    private static void stepsCounted() {
        done("loop 2;when 0 1;end;end;", 1 + 2, 0);
        done("loop 2;when 0 1;turn;end;end;", 1 + 2 * 2, 0, "1");
        done("loop 9;loop 9;end;end;", 1 + 9, 0);
        done("loop 9;loop 9;loop 9;end;end;end;", 1 + 9 + 81, 0);
    }

    /** "at most 200; then it is over: how many were done". */
    private static void twoHundredSteps() {
        done(ALL_BUT_ONE, 199, 0);
        done(ALL_BUT_ONE + "turn;", 200, 0);
        done(ALL_BUT_ONE + "turn;turn;", 200, 1);
        done("loop 9;loop 9;loop 9;turn;end;end;end;", 200, 1);
        HoleDeck deck = Check.deckOf("1", "2", "3");
        Check.program(deck, ALL_BUT_ONE + "cut 1;cut 1;");
        deck.run();
        // 189 turns, one cut, and the second cut is not done
        check.lies("what was done", deck, "1 0 2");
        check.taken("it can be done again", deck, deck.run(), 200);
    }

    /** ran(2): "1 if it was over by 200 STEPS with some left, else 0". */
    private static void someLeft() {
        done(ALL_BUT_ONE + "loop 1;end;", 200, 0);
        done(ALL_BUT_ONE + "loop 9;end;", 200, 0);
        done(ALL_BUT_ONE + "loop 1;turn;end;", 200, 1);
        done(ALL_BUT_ONE + "when 0 1;turn;end;", 200, 0, "2");
        done(ALL_BUT_ONE + "when 0 1;turn;end;", 200, 1, "1");
        done(ALL_BUT_ONE + "when 0 1;end;", 200, 0, "1");
        done(ALL_BUT_ONE + "when 0 1;turn;end;turn;", 200, 1, "2");
        done(ALL_BUT_ONE + "loop 2;end;loop 2;end;", 200, 1);
        // the 200th STEP is the last of the last round
        done("turn;loop 9;loop 7;turn;turn;turn;end;end;", 200, 0);
        done("turn;turn;loop 9;loop 7;turn;turn;turn;end;end;", 200, 1);
        // the 200th STEP is the last of a round that is not the last: 1 + 8 * 25 - 1
        done("loop 9;" + "turn;".repeat(25) + "end;", 200, 1);
        done("loop 8;" + "turn;".repeat(25) + "end;", 200, 1);
        done("loop 7;" + "turn;".repeat(28) + "end;turn;turn;turn;", 200, 0);
        HoleDeck deck = new HoleDeck();
        Check.program(deck, ALL_BUT_ONE + "turn;turn;");
        deck.run();
        Check.program(deck, "turn;");
        deck.run();
        check.taken("of run() latest", deck, deck.ran(2), 0);
    }

    /** ran(): what 0 to 2; "(1; 6: there was none)". */
    private static void ranAtItsEnds() {
        twins.span("ran", Twins::rich, 0, 2, (deck, what) -> deck.ran(what));
        HoleDeck deck = new HoleDeck();
        for (int what = 0; what < 3; what++) {
            check.refused("there was none", deck, deck.ran(what), 6);
        }
        check.refused("1 ahead of 6", deck, deck.ran(3), 1);
        check.refused("1 ahead of 6", deck, deck.ran(-1), 1);
        Check.program(deck, "turn;");
        check.refused("a RUN that was not done", deck, deck.ran(0), 6);
        deck.pass(0, false);
        check.refused("a PASS is none", deck, deck.ran(1), 6);
        deck.run();
        check.taken("one", deck, deck.ran(0), 0);
    }
}
