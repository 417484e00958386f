/** Promises 29 to 31: runs. */
public final class RunsTest {
    private static final Check check = new Check();

    public static void main(String[] args) {
        program();
        faults();
        manySteps();
        depth();
        steps();
        add();
        when();
        loops();
        over();
        ran();
        check.end();
    }

    private static void program() {
        HoleDeck deck = new HoleDeck();
        Check.feed(deck, "turn; turn;         ");
        check.refused("n below 0", deck, deck.program(-1), 1);
        check.refused("more than the tape has", deck, deck.program(21), 1);
        check.taken("the first eleven", deck, deck.program(11), 2);
        check.due("the tape is empty", deck.feed(0, 0, 0, 0, 0), 20);
        StringBuilder blanks = new StringBuilder();
        for (int i = 0; i < 320; i++) {
            blanks.append(' ');
        }
        deck = new HoleDeck();
        Check.feed(deck, blanks.toString());
        check.refused("above 300", deck, deck.program(301), 1);
        check.due("no fault was told", deck.fault(0), -1);
        check.taken("300", deck, deck.program(300), 0);
        check.due("a fault was looked for", deck.fault(0), 0);
        Check.program(deck, "turn;turn;turn;");
        check.fault(deck, "turn;turn", false, 2, 9);
        check.taken("the old one stays", deck, deck.run(), 3);
        check.taken("one of each", deck, Check.program(deck,
            "pass 7 stops;pass 0;put 7 11;cut 99;cut 0;turn;add 2 7;loop 9;end;when 0 11;end;"), 9);
        check.taken("without blanks", deck, Check.program(deck, "pass0stops;put1 2;loop3;turn;end;"), 4);
        check.taken("with many", deck, Check.program(deck, "\n pass \n 0 ;\n"), 1);
    }

    private static void faults() {
        check.fault("Turn;", false, 1, 0);
        check.fault("turn.", false, 1, 4);
        check.fault("cut 1000;", false, 1, 4);
        check.fault("turns;", false, 2, 0);
        check.fault("stops;", false, 2, 0);
        check.fault("5;", false, 2, 0);
        check.fault("turn", false, 2, 4);
        check.fault("turn 5;", false, 2, 5);
        check.fault("pass;", false, 2, 4);
        check.fault("pass stops;", false, 2, 5);
        check.fault("pass 1 stop;", false, 2, 7);
        check.fault("pass 1 stops stops;", false, 2, 13);
        check.fault("pass 1 2;", false, 2, 7);
        check.fault("put 1;", false, 2, 5);
        check.fault("put 1 2 3;", false, 2, 8);
        check.fault("cut 5 stops;", false, 2, 6);
        check.fault("end;", false, 2, 0);
        check.fault("loop 2; end; end;", false, 2, 13);
        check.fault("loop 2; end", false, 2, 11);
        check.fault("loop 2; turn; ", false, 2, 14);
        check.fault("when 0 1; loop 2; end;", false, 2, 22);
        check.fault("loop 2 end;", false, 2, 7);
        check.fault("pass 8;", false, 4, 5);
        check.fault("put 8 1;", false, 4, 4);
        check.fault("put 1 12;", false, 4, 6);
        check.fault("cut 100;", false, 4, 4);
        check.fault("loop 0;", false, 4, 5);
        check.fault("loop 10;", false, 4, 5);
        check.fault("when 8 0;", false, 4, 5);
        check.fault("when 0 12;", false, 4, 7);
        check.fault("add 8 9;", false, 4, 4);
        check.fault("add 3 2;", false, 4, 6);
        check.fault("add 0 6;", false, 4, 6);
        check.fault("add 7 8;", false, 4, 6);
        check.fault("add 2 8", false, 4, 6);
    }

    private static void manySteps() {
        StringBuilder forty = new StringBuilder("loop 1;when 0 0;");
        for (int i = 0; i < 38; i++) {
            forty.append("turn;");
        }
        HoleDeck deck = new HoleDeck();
        check.taken("forty, and two ends", deck, Check.program(deck, forty + "end;end;"), 40);
        check.fault(forty + "end;turn", false, 6, forty.length() + 4);
        check.fault(forty + "end;loop 0", false, 6, forty.length() + 4);
        check.fault(forty + "end;stops", false, 2, forty.length() + 4);
        StringBuilder loops = new StringBuilder();
        for (int i = 0; i < 29; i++) {
            loops.append("loop1;end;");
        }
        check.taken("many ends", deck, Check.program(deck, loops.toString()), 29);
        check.taken("all of them", deck, deck.run(), 29);
    }

    private static void depth() {
        HoleDeck deck = new HoleDeck();
        check.taken("three deep", deck, Check.program(deck, "loop 1;when 0 0;loop 1;end;end;end;loop 1;end;"), 4);
        check.fault("loop 1;when 0 0;loop 1;loop 1;", false, 5, 23);
        check.fault("when 0 0;when 0 0;when 0 0;when 0 0;", false, 5, 27);
        check.fault("loop 1;when 0 0;loop 1;turn;when", false, 5, 28);
        StringBuilder many = new StringBuilder("loop 1;when 0 0;loop 1;");
        for (int i = 0; i < 37; i++) {
            many.append("turn;");
        }
        check.fault(many + "loop 1;", false, 5, many.length());
        check.fault(many + "turn;", false, 6, many.length());
    }

    private static void steps() {
        HoleDeck deck = Check.deckOf("3", "1", " ", "x", "1", "2");
        step(deck, "put 0 1;", "0 2 3 5 1 4");
        step(deck, "put 0 10;", "0 3 5 1 4 2");
        step(deck, "put 0 11;", "0 5 1 4 2 3");
        step(deck, "put 0 9;", "0 5 1 4 2 3");
        step(deck, "cut 2;", "1 4 2 3 0 5");
        step(deck, "cut 0;", "1 4 2 3 0 5");
        step(deck, "cut 6;", "1 4 2 3 0 5");
        step(deck, "cut 99;", "1 4 2 3 0 5");
        step(deck, "cut 5;", "5 1 4 2 3 0");
        step(deck, "turn;", "0 3 2 4 1 5");
        check.due("no wear so far", deck.card(0, 18), 0);
        check.due("no hours so far", deck.many(3), 0);
        step(deck, "pass 0 stops;", "0 3 2 4 1 5");
        check.due("hands", deck.ran(1), 3);
        check.due("hours", deck.many(3), 2 + 15);
        check.due("wear", deck.card(3, 18), 1);
        check.due("no wear", deck.card(2, 18), 0);
        step(deck, "pass 0;", "4 1 5 0 2 3");
        check.due("hands", deck.ran(1), 5);
        check.due("hours", deck.many(3), 17 + 6 + 25);
        check.due("wear", deck.card(2, 18), 1);
    }

    private static void step(HoleDeck deck, String text, String want) {
        check.taken(text, deck, Check.program(deck, text), 1);
        check.taken(text, deck, deck.run(), 1);
        check.lies(text, deck, want);
    }

    private static void add() {
        HoleDeck deck = new HoleDeck();
        for (int i = 0; i < 30; i++) {
            Check.punch(deck, "999999");
        }
        Check.program(deck, "loop 9;loop 9;add 0 5;add 0 5;end;end;");
        check.taken("many sums", deck, deck.run(), 1 + 9 + 162);
        check.taken("the register is long", deck, deck.ran(0), 162L * 29999970);
        Check.program(deck, "add 5 5;");
        deck.run();
        check.taken("0 when a run begins", deck, deck.ran(0), 270);
        deck.holes(0, 5, 0);
        deck.holes(1, 5, 3);
        deck.run();
        check.taken("blank and wrong", deck, deck.ran(0), 270 - 18);
    }

    private static void when() {
        HoleDeck deck = Check.deckOf("12", "2x", "3 ");
        Check.program(deck, "when 0 1;cut 1;end;when 1 11;cut 1;end;when 1 10;turn;end;when 0 3;end;");
        check.taken("first run", deck, deck.run(), 7);
        check.lies("first run", deck, "1 0 2");
        check.taken("second run", deck, deck.run(), 5);
        check.lies("second run", deck, "0 2 1");
        HoleDeck one = Check.deckOf("5");
        Check.program(one, "when 0 5;turn;end;");
        check.taken("one card alone", one, one.run(), 2);
        HoleDeck empty = new HoleDeck();
        Check.program(empty, "when 0 0;turn;end;");
        check.taken("no card reads 0", empty, empty.run(), 1);
        Check.program(empty, "when 0 10;turn;end;cut 1;turn;pass 0;put 0 0;");
        check.taken("no card", empty, empty.run(), 5);
    }

    private static void loops() {
        HoleDeck deck = Check.deckOf("1", "2", "3", "4", "5");
        Check.program(deck, "loop 3;cut 1;end;");
        check.taken("three times", deck, deck.run(), 4);
        check.lies("three times", deck, "3 4 0 1 2");
        Check.program(deck, "loop 2;loop 2;cut 1;end;when 0 4;turn;end;end;");
        check.taken("loops within", deck, deck.run(), 1 + 2 * (1 + 2 + 1));
        check.lies("loops within", deck, "2 3 4 0 1");
        Check.program(deck, "loop 9;end;loop 2;loop 3;end;end;");
        check.taken("with nothing in them", deck, deck.run(), 1 + 1 + 2);
        check.due("nothing left", deck.ran(2), 0);
    }

    private static void over() {
        HoleDeck deck = Check.deckOf("1", "2");
        Check.program(deck, "loop 9;loop 9;loop 2;end;turn;end;end;");
        check.taken("1 + 9 + 81 * 2", deck, deck.run(), 172);
        check.due("none left", deck.ran(2), 0);
        String twoHundred = "loop 9;loop 7;turn;turn;turn;end;end;turn;";
        Check.program(deck, twoHundred);
        check.taken("1 + 9 * (1 + 21) + 1", deck, deck.run(), 200);
        check.due("just 200: none left", deck.ran(2), 0);
        Check.program(deck, twoHundred + "turn;");
        check.taken("one more", deck, deck.run(), 200);
        check.due("one left", deck.ran(2), 1);
        Check.program(deck, "loop 9;loop 7;turn;turn;turn;end;end;loop 9;end;");
        check.taken("an empty loop at last", deck, deck.run(), 200);
        check.due("none left in it", deck.ran(2), 0);
        Check.program(deck, "loop 9;loop 7;turn;turn;turn;end;end;loop 2;turn;end;");
        check.taken("a loop with a step at last", deck, deck.run(), 200);
        check.due("its steps are left", deck.ran(2), 1);
        Check.program(deck, "loop 9;loop 7;turn;turn;turn;end;end;when 7 1;turn;end;");
        check.taken("a when that does not hold at last", deck, deck.run(), 200);
        check.due("none left to come to", deck.ran(2), 0);
        deck = new HoleDeck();
        Check.punch(deck, "1");
        Check.program(deck, "loop 9;loop 9;loop 9;pass 0;end;end;end;");
        check.taken("over", deck, deck.run(), 200);
        check.due("wear of what was done", deck.card(0, 18), 176);
        check.due("hands of what was done", deck.ran(1), 176);
    }

    private static void ran() {
        HoleDeck deck = Check.deckOf("1", "2");
        check.refused("ahead of any", deck, deck.ran(2), 6);
        check.refused("what 3", deck, deck.ran(3), 1);
        check.refused("what -1", deck, deck.ran(-1), 1);
        Check.program(deck, "pass 0;pass 1;add 0 0;");
        check.refused("not yet done", deck, deck.ran(0), 6);
        deck.run();
        check.taken("register", deck, deck.ran(0), 3);
        check.taken("hands", deck, deck.ran(1), 3);
        check.taken("not over", deck, deck.ran(2), 0);
        deck.pass(0, false);
        check.taken("of the run alone", deck, deck.ran(1), 3);
        Check.program(deck, "");
        deck.program(0);
        check.taken("the empty one", deck, deck.run(), 0);
        check.taken("its register", deck, deck.ran(0), 0);
        check.taken("its hands", deck, deck.ran(1), 0);
    }
}
