/**
 * One object asked again: behind a refused call, behind a greater deck, book, run or key. What an earlier call left
 * inside must not be seen by a later one.
 */
public final class EdgeAgainTest {
    private static final Check check = new Check();

    public static void main(String[] args) {
        statusZeroBehindARefusedCall();
        statusOfEachRefusedCall();
        bookBehindAFault();
        bookBehindAGreaterOne();
        meantBehindAGreaterBook();
        meantOfAFullBook();
        runBehindAFaultInALoop();
        runBehindALongerOne();
        runBehindOneThatWasOver();
        registerOfOtherSteps();
        stepsOnAFullDeck();
        putByEachColumn();
        planBehindAnotherKey();
        planBehindALongerOne();
        partsBehindAGreaterDeck();
        fewestBehindAGreaterDeck();
        fewestOfEachReading();
        fewestOfEachReadingInTheLastColumn();
        collateBehindAGreaterDeck();
        tapeBehindALongerText();
        trayBehindALongerOne();
        check.end();
    }

    private static void takenOnRich(String what, Twins.Call call) {
        HoleDeck deck = new HoleDeck();
        Twins.rich(deck);
        check.refused("a refused call", deck, deck.many(4), 1);
        call.on(deck);
        check.due(what + ", STATUS", deck.status(), 0);
    }

    private static long bit(boolean answer) {
        return answer ? 1 : 0;
    }

    /** "STATUS of the latest call that has one": 0 of each call that is taken, whatever was ahead of it. */
    private static void statusZeroBehindARefusedCall() {
        takenOnRich("tray", deck -> bit(deck.tray(3, 0, 1)));
        takenOnRich("write", deck -> bit(deck.write(0, 0, 1)));
        takenOnRich("read", deck -> deck.read(0, 0));
        takenOnRich("pour", deck -> bit(deck.pour(0, 0, 0, 1, 1)));
        takenOnRich("punch", deck -> deck.punch(2, 0, 0));
        takenOnRich("holes", deck -> bit(deck.holes(0, 0, 0)));
        for (int what = 0; what < 20; what++) {
            int one = what;
            takenOnRich("card what " + what, deck -> deck.card(0, one));
        }
        takenOnRich("lies", deck -> deck.lies(0));
        takenOnRich("exchange", deck -> bit(deck.exchange(0, 1)));
        takenOnRich("book", deck -> deck.book(0));
        for (int what = 0; what < 4; what++) {
            int one = what;
            takenOnRich("many " + what, deck -> deck.many(one));
        }
        for (int what = 0; what < 3; what++) {
            int one = what;
            takenOnRich("code what " + what, deck -> deck.code(0, one));
            takenOnRich("ran " + what, deck -> deck.ran(one));
            takenOnRich("matched what " + what, deck -> deck.matched(0, 0, one));
            takenOnRich("misread " + what, deck -> deck.misread(one));
        }
        takenOnRich("pass", deck -> deck.pass(0, false));
        takenOnRich("ordered", deck -> deck.ordered(0, 2));
        takenOnRich("plan", deck -> deck.plan(0, 2));
        takenOnRich("planned", deck -> deck.planned(0));
        takenOnRich("planned NONE", deck -> deck.planned(-1));
        takenOnRich("field", deck -> deck.field(0, 0, 1));
        for (int what = 0; what < 2; what++) {
            int one = what;
            takenOnRich("mean what " + what, deck -> deck.mean(0, one));
            takenOnRich("sum what " + what, deck -> deck.sum(0, 1, 3, one));
            takenOnRich("pocket what " + what, deck -> deck.pocket(0, 1, 0, 1, one));
            takenOnRich("lost what " + what, deck -> deck.lost(0, 0, 1, 0, one));
            takenOnRich("meant what " + what, deck -> deck.meant(2, 0, 0, one));
            takenOnRich("list what " + what, deck -> deck.list(5, 1, one));
            takenOnRich("habit of " + what, deck -> bit(deck.habit(one)));
        }
        takenOnRich("collate", deck -> deck.collate(0, 1));
        takenOnRich("program", deck -> deck.program(0));
        takenOnRich("run", deck -> deck.run());
        takenOnRich("fewest", deck -> deck.fewest(0, 1));
        takenOnRich("parts", deck -> deck.parts(0, 0));
        takenOnRich("parted", deck -> deck.parted(0));
        takenOnRich("meaning", deck -> {
            deck.holes(0, 0, 4);
            deck.many(4);
            return deck.meaning(0, 0, 0);
        });
        takenOnRich("joined", deck -> deck.joined(0, 1));
        takenOnRich("count", deck -> deck.count(0, 0));
        takenOnRich("anew", deck -> deck.anew(0));
        takenOnRich("mark", deck -> deck.mark());
        takenOnRich("back", deck -> deck.back());
    }

    /** And the STATUS of a refused one, behind one that was taken and behind one refused otherwise. */
    private static void statusOfEachRefusedCall() {
        HoleDeck deck = new HoleDeck();
        check.refused("6", deck, deck.ran(0), 6);
        check.refused("1", deck, deck.ran(3), 1);
        check.refused("6 again", deck, deck.planned(0), 6);
        check.refused("2", deck, deck.read(0, 0), 2);
        check.refused("1 again", deck, deck.list(0, 0, 0), 1);
        check.taken("0", deck, deck.run(), 0);
        check.refused("6 behind 0", deck, deck.misread(0), 6);
    }

    /** "9: the old one stays", and what was read of the faulty one is not seen in the next. */
    private static void bookBehindAFault() {
        HoleDeck deck = new HoleDeck();
        check.fault(deck, "code a year 1;mean m holes 1;code b year 2;mean n holes 1;join m n;?", true, 1, 67);
        check.taken("its NAMES are free", deck, Check.book(deck, "code a year 3;mean m holes 2;"), 1);
        check.taken("one CODE", deck, deck.many(1), 1);
        check.fault(deck, "code b year 2;mean n holes 1;join m n;", true, 3, 34);
        String text = "code a year 1;mean m holes 1;code b year 2;mean n holes 1;";
        check.fault(deck, text + "join m n;join m n;", true, 5, text.length() + 16);
        check.taken("without joins", deck, Check.book(deck, text), 2);
        check.refused("m in b", deck, deck.joined(0, 1), 6);
        check.fault(deck, "code c year 3;code d year 4;code e year 5;code f year 6;code", true, 6, 56);
        check.taken("four CODES may be told again", deck,
            Check.book(deck, "code c year 3;code d year 4;code e year 5;code f year 6;"), 0);
    }

    private static void bookBehindAGreaterOne() {
        HoleDeck deck = new HoleDeck();
        StringBuilder great = new StringBuilder("code a year 1;");
        for (int i = 0; i < 20; i++) {
            great.append("mean ").append((char) ('a' + i)).append(" holes ").append(i % 10);
            great.append(i < 10 ? ";" : " 11;");
        }
        check.taken("twenty MEANS", deck, Check.book(deck, great.toString()), 20);
        check.taken("one MEAN", deck, Check.book(deck, "code z year 9;mean t holes 9 11;"), 1);
        check.taken("how many of its CODE", deck, deck.code(0, 2), 1);
        check.refused("no MEAN 1", deck, deck.mean(1, 0), 1);
        check.refused("no join of one", deck, deck.joined(1, 0), 1);
        Check.punch(deck, "0");
        check.refused("the old MEAN of HOLE 0 is gone", deck, deck.meaning(0, 0, 0), 6);
        check.taken("a CODE without MEANS", deck, Check.book(deck, "code z year 9;"), 0);
        check.refused("no first MEAN", deck, deck.code(0, 1), 6);
        check.taken("none at all", deck, deck.code(0, 2), 0);
    }

    /** "all, if a alone (of its CODE) is joined to b": a MEAN of the BOOK ahead is none. */
    private static void meantBehindAGreaterBook() {
        HoleDeck deck = Check.deckOf("1");
        String two = "code a year 1;mean x holes 1;code b year 2;mean y holes 1;";
        Check.book(deck, two + "mean z holes 2;join y x;join z x;");
        check.taken("one of two", deck, deck.meant(0, 0, 1, 0), 0);
        check.taken("the other of two", deck, deck.meant(0, 0, 2, 1), 1);
        Check.book(deck, two + "join y x;");
        check.taken("alone", deck, deck.meant(0, 0, 1, 0), 1);
        check.refused("no MEAN 2", deck, deck.meant(0, 0, 2, 0), 1);
        Check.book(deck, two);
        check.taken("not joined any more", deck, deck.meant(0, 0, 1, 1), 0);
    }

    private static void meantOfAFullBook() {
        HoleDeck deck = Check.deckOf("1");
        StringBuilder text = new StringBuilder("code a year 1;mean a holes 2;mean b holes 1;code b year 2;");
        for (int i = 2; i < 20; i++) {
            text.append("mean ").append((char) ('a' + i)).append(" holes ").append(i % 10);
            text.append(i < 10 ? ";" : " 11;");
        }
        check.taken("twenty MEANS", deck, Check.book(deck, text + "join t b;"), 20);
        check.taken("the last alone", deck, deck.meant(1, 0, 19, 0), 1);
        check.taken("the last of all", deck, deck.joined(19, 0), 1);
        check.taken("not joined", deck, deck.meant(1, 0, 18, 1), 0);
    }

    /** Loops that were open at a FAULT are not open in the next RUN. */
    private static void runBehindAFaultInALoop() {
        HoleDeck deck = new HoleDeck();
        check.fault(deck, "loop 2;when 0 0;loop 3;", false, 2, 23);
        check.fault(deck, "end;", false, 2, 0);
        check.fault(deck, "loop 2;loop 2;turn", false, 2, 18);
        check.taken("no loop is open", deck, Check.program(deck, "turn;"), 1);
        check.fault(deck, "loop 2;loop 2;loop 2;loop", false, 5, 21);
        check.taken("three may be within again", deck, Check.program(deck, "loop 1;loop 1;loop 1;end;end;end;"), 3);
        StringBuilder forty = new StringBuilder();
        for (int i = 0; i < 40; i++) {
            forty.append("turn;");
        }
        check.fault(deck, forty + "turn;", false, 6, 200);
        check.taken("forty may be told again", deck, Check.program(deck, forty.toString()), 40);
    }

    private static void runBehindALongerOne() {
        HoleDeck deck = Check.deckOf("1", "2", "3");
        Check.program(deck, "loop 3;cut 1;cut 1;end;turn;turn;turn;");
        check.taken("the longer one", deck, deck.run(), 10);
        check.lies("it comes to one turn", deck, "2 1 0");
        Check.program(deck, "cut 1;");
        check.taken("the shorter one", deck, deck.run(), 1);
        check.lies("one cut", deck, "1 0 2");
    }

    /** Loops that were left open when it was over begin anew. */
    private static void runBehindOneThatWasOver() {
        HoleDeck deck = Check.deckOf("1", "2", "3", "4", "5");
        Check.program(deck, "loop 9;loop 9;loop 9;turn;end;end;end;");
        check.taken("over", deck, deck.run(), 200);
        check.taken("again", deck, deck.run(), 200);
        check.taken("some left", deck, deck.ran(2), 1);
        Check.program(deck, "loop 2;loop 2;loop 2;turn;end;end;end;");
        check.taken("a small one", deck, deck.run(), 1 + 2 + 4 + 8);
        check.taken("none left", deck, deck.ran(2), 0);
        Check.program(deck, "loop 9;loop 9;loop 9;turn;end;end;end;");
        deck.run();
        Check.program(deck, "when 7 10;when 7 10;when 7 10;turn;end;end;end;");
        check.taken("a when is done once where a loop was left open", deck, deck.run(), 4);
    }

    /** The REGISTER grows by add alone, HANDS by pass alone. */
    private static void registerOfOtherSteps() {
        HoleDeck deck = Check.deckOf("12", "34", "56");
        Check.program(deck, "put 1 2;cut 1;turn;loop 2;turn;end;when 0 1;turn;end;put 0 3;");
        deck.run();
        check.taken("REGISTER", deck, deck.ran(0), 0);
        check.taken("HANDS", deck, deck.ran(1), 0);
        Check.program(deck, "add 0 1;pass 0;add 1 1;");
        deck.run();
        check.taken("REGISTER", deck, deck.ran(0), 12 + 34 + 56 + 2 + 4 + 6);
        check.taken("HANDS", deck, deck.ran(1), 3);
    }

    private static HoleDeck thirty() {
        HoleDeck deck = new HoleDeck();
        deck.tray(0, 1, 8);
        for (int card = 0; card < 30; card++) {
            deck.write(0, 0, 1 << card % 2);
            deck.punch(0, 0, card % 3 - 1);
        }
        return deck;
    }

    /** Each STEP, a PASS that STOPS and collate() on thirty CARDS. */
    private static void stepsOnAFullDeck() {
        HoleDeck deck = thirty();
        Check.program(deck, "put 0 0;");
        deck.run();
        for (int place = 0; place < 30; place++) {
            check.due("put", deck.lies(place), place < 15 ? 2 * place + 1 : 2 * (place - 15));
        }
        Check.program(deck, "turn;");
        deck.run();
        for (int place = 0; place < 30; place++) {
            check.due("turn", deck.lies(place), place < 15 ? 28 - 2 * place : 29 - 2 * (place - 15));
        }
        Check.program(deck, "cut 15;");
        deck.run();
        for (int place = 0; place < 30; place++) {
            check.due("cut", deck.lies(place), place < 15 ? 29 - 2 * place : 28 - 2 * (place - 15));
        }
        check.taken("a PASS that STOPS nowhere", deck, deck.pass(0, true), 2);
        for (int place = 0; place < 30; place++) {
            check.due("pass", deck.lies(place), place < 15 ? 28 - 2 * place : 29 - 2 * (place - 15));
        }
        check.taken("collate", deck, deck.collate(0, 0), 10);
        check.due("the last of those in no INK", deck.lies(29), 3);
    }

    /** "put c v" by each COLUMN moves by that COLUMN alone, and does no more. */
    private static void putByEachColumn() {
        for (int column = 0; column < 8; column++) {
            HoleDeck deck = new HoleDeck();
            deck.tray(0, 1, 8);
            for (int card = 0; card < 10; card++) {
                deck.write(0, column, card == 4 ? 2 : 4);
                deck.punch(0, 0, -1);
            }
            Check.program(deck, "put " + column + " 1;");
            check.taken("one STEP", deck, deck.run(), 1);
            check.lies("put by COLUMN " + column, deck, "0 1 2 3 5 6 7 8 9 4");
        }
    }

    /** "by COLUMNS of the KEY's ITEMS": those of an earlier KEY are not of it. */
    private static void planBehindAnotherKey() {
        HoleDeck deck = Check.deckOf("210", "120", "112");
        Check.fill(deck, 0, 0, 0, 1);
        check.taken("two PASSES", deck, deck.plan(0, 2), 2);
        Check.fill(deck, 0, 0, 17);
        // by COLUMN 1 odd ones come behind even ones: a PASS by COLUMN 0 would do, but it is not of the KEY
        check.refused("not by COLUMN 0", deck, deck.plan(0, 1), 6);
        HoleDeck other = Check.deckOf("19", "08");
        Check.fill(other, 0, 0, 0);
        check.taken("by COLUMN 0", other, other.plan(0, 1), 1);
        Check.fill(other, 0, 0, 1);
        check.taken("by COLUMN 1", other, other.plan(0, 1), 1);
        check.taken("COLUMN 1 it is", other, other.planned(0), 1);
    }

    private static void planBehindALongerOne() {
        HoleDeck deck = Check.deckOf("21", "12", "11");
        Check.fill(deck, 0, 0, 0, 1);
        check.taken("two", deck, deck.plan(0, 2), 2);
        check.taken("one", deck, deck.plan(0, 1), 1);
        check.taken("its PASS", deck, deck.planned(0), 0);
        check.taken("its HANDS", deck, deck.planned(-1), 2);
        check.refused("no second", deck, deck.planned(1), 6);
    }

    /** WAYS of a DECK that was greater ahead of back(). */
    private static void partsBehindAGreaterDeck() {
        HoleDeck deck = Check.deckOf("1", "2");
        deck.mark();
        for (int serial = 3; serial < 8; serial++) {
            Check.punch(deck, "" + serial);
        }
        check.taken("seven CARDS", deck, deck.parts(0, 0), 128);
        deck.back();
        check.taken("the greater one's CARDS still", deck, deck.parted(6), 2);
        check.taken("two CARDS", deck, deck.parts(0, 0), 4);
        check.refused("no CARD 2 then", deck, deck.parted(2), 1);
        HoleDeck empty = new HoleDeck();
        empty.mark();
        Check.punch(empty, "1");
        Check.punch(empty, "1");
        Check.punch(empty, "1");
        check.taken("no WAY", empty, empty.parts(0, 0), 0);
        empty.back();
        check.taken("one WAY of none", empty, empty.parts(0, 0), 1);
    }

    private static void fewestBehindAGreaterDeck() {
        HoleDeck deck = Check.deckOf("5x");
        deck.mark();
        Check.punch(deck, "6x");
        Check.punch(deck, "7x");
        Check.fill(deck, 0, 0, 0, 0, 0, 0, 0, 1, 1, 0, 0, 0, 0, 0, 11);
        check.taken("the last DOUBLE", deck, deck.fewest(0, 0), 1);
        check.taken("CARD 2", deck, deck.misread(1), 2);
        deck.back();
        check.refused("one CARD alone", deck, deck.fewest(0, 0), 6);
        Check.fill(deck, 0, 0, 0, 0, 0, 0, 1, 0, 0, 0, 0, 0, 0, 0, 4);
        check.taken("it is WORN", deck, deck.fewest(0, 0), 1);
        check.taken("CARD 0", deck, deck.misread(1), 0);
        check.taken("one set", deck, deck.misread(0), 1);
    }

    /** One CARD that READS so, with the next COLUMN so, told so: all of them. */
    private static void fewestOfEachReading() {
        for (int reads = 0; reads < 12; reads++) {
            for (int next = 0; next < 12; next++) {
                HoleDeck deck = Check.deckOf("");
                deck.holes(0, 6, Check.holesThatRead(reads));
                deck.holes(0, 7, Check.holesThatRead(next));
                for (int told = 0; told < 12; told++) {
                    Check.fill(deck, 0, 0, Check.tellings(told));
                    boolean worn = reads < 10 && told == (reads + 9) % 10;
                    boolean off = told == next;
                    String what = reads + " and " + next + " told " + told;
                    int got = deck.fewest(6, 0);
                    if (told == reads) {
                        check.taken(what, deck, got, 0);
                    } else if (worn || off) {
                        check.taken(what, deck, got, 1);
                        check.taken(what + ", sets", deck, deck.misread(0), worn && off ? 2 : 1);
                        check.taken(what + ", kind", deck, deck.misread(2), worn ? 0 : 1);
                    } else {
                        check.refused(what, deck, got, 6);
                    }
                }
            }
        }
    }

    /** "OFF .. (not of COLUMN 7)": there it is WORN or nothing. */
    private static void fewestOfEachReadingInTheLastColumn() {
        for (int reads = 0; reads < 12; reads++) {
            HoleDeck deck = Check.deckOf("5");
            deck.holes(0, 7, Check.holesThatRead(reads));
            for (int told = 0; told < 12; told++) {
                Check.fill(deck, 0, 0, Check.tellings(told));
                boolean worn = reads < 10 && told == (reads + 9) % 10;
                String what = reads + " told " + told;
                int got = deck.fewest(7, 0);
                if (told == reads) {
                    check.taken(what, deck, got, 0);
                } else if (worn) {
                    check.taken(what, deck, got, 1);
                } else {
                    check.refused(what, deck, got, 6);
                }
            }
        }
    }

    private static void collateBehindAGreaterDeck() {
        HoleDeck deck = new HoleDeck();
        Check.punch(deck, "3", 0, 0);
        Check.punch(deck, "2", 0, 1);
        deck.mark();
        for (int i = 0; i < 4; i++) {
            Check.punch(deck, "1", 0, i % 2);
        }
        check.taken("six", deck, deck.collate(0, 0), 0);
        deck.back();
        check.taken("two", deck, deck.collate(0, 0), 0);
        check.lies("two", deck, "1 0");
        check.taken("MATCHED of two", deck, deck.matched(0, 0, 0), 0);
    }

    /** A shorter text on the tape has nothing of the longer one behind it. */
    private static void tapeBehindALongerText() {
        HoleDeck deck = new HoleDeck();
        Check.book(deck, "code a year 1;code b year 2;code c year 3;");
        Check.feed(deck, "code z year 9;      ");
        check.refused("20 bytes are all", deck, deck.book(21), 1);
        check.taken("the shorter one", deck, deck.book(20), 0);
        check.taken("one CODE", deck, deck.many(1), 1);
        Check.feed(deck, "code a year 12      ");
        check.refused("a NUMBER at its end", deck, deck.book(14), 9);
        check.due("the text's length", deck.fault(1), 14);
    }

    private static void trayBehindALongerOne() {
        HoleDeck deck = new HoleDeck();
        Check.fill(deck, 0, 1, 1, 2, 3, 4, 5, 6, 7, 8, 9);
        deck.tray(0, 1, 7);
        check.refused("eight no more", deck, deck.punch(0, 0, 0), 3);
        deck.tray(0, 1, 8);
        check.taken("eight 0s", deck, deck.punch(0, 0, 0), 0);
        check.taken("BLANK", deck, deck.card(0, 15), 10);
    }
}
