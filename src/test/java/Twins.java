import java.util.ArrayList;
import java.util.List;

/**
 * That a refused call changes nothing else: two objects are made alike, one of them is asked the refused call, and
 * then all that can be seen of both must be alike. What is looked at changes the object, and an object is good for
 * 512 calls, so each look has two new objects of its own.
 */
final class Twins {
    interface Make {
        void make(HoleDeck deck);
    }

    interface Call {
        long on(HoleDeck deck);
    }

    interface Ask {
        boolean on(HoleDeck deck);
    }

    /** A call by a number of its own. */
    interface Span {
        long on(HoleDeck deck, int number);
    }

    interface AskedSpan {
        boolean on(HoleDeck deck, int number);
    }

    /** A call by a FIELD of its own. */
    interface OfField {
        long on(HoleDeck deck, int a, int b);
    }

    private interface Look {
        void look(HoleDeck deck, List<Long> seen);
    }

    private static final String[] NAMES = {"trays", "sorts", "what was told", "cards", "book", "fault", "tape", "run",
        "marks"};
    private static final Look[] LOOKS = {Twins::trays, Twins::sorts, Twins::told, Twins::cards, Twins::book,
        Twins::fault, Twins::tape, Twins::run, Twins::marks};

    private final Check check;

    Twins(Check check) {
        this.check = check;
    }

    /** A call that answers NONE with this status. */
    void refused(String what, Make make, Call call, int status) {
        for (int i = 0; i < LOOKS.length; i++) {
            compare(what, make, call, status, i);
        }
    }

    /** A call that answers false with this status. */
    void denied(String what, Make make, Ask ask, int status) {
        refused(what, make, deck -> ask.on(deck) ? 1 : HoleDeck.NONE, status);
    }

    /** A call that answers NONE with status 9: the fault is another one, and the tape is empty. */
    void faulty(String what, Make make, Call call) {
        for (int i = 0; i < LOOKS.length; i++) {
            if (!NAMES[i].equals("fault") && !NAMES[i].equals("tape")) {
                compare(what, make, call, 9, i);
            }
        }
        HoleDeck deck = new HoleDeck();
        make.make(deck);
        call.on(deck);
        check.due(what + ": the tape is empty", deck.feed(0, 0, 0, 0, 0), 20);
        check.due(what + ": a fault is told", deck.fault(0) > 0 && deck.fault(1) >= 0, true);
    }

    /** The numbers from least to most are taken (status 0), those next to them and far from them are refused by 1. */
    void span(String what, Make make, int least, int most, Span span) {
        for (int number : new int[] {least, most}) {
            HoleDeck deck = new HoleDeck();
            make.make(deck);
            span.on(deck, number);
            check.due(what + " " + number + ", status", deck.status(), 0);
        }
        for (int number : new int[] {least - 1, most + 1, Integer.MIN_VALUE, Integer.MAX_VALUE}) {
            refused(what + " " + number, make, deck -> span.on(deck, number), 1);
        }
    }

    void askedSpan(String what, Make make, int least, int most, AskedSpan span) {
        span(what, make, least, most, (deck, number) -> span.on(deck, number) ? 1 : HoleDeck.NONE);
    }

    /** A FIELD is of one to six columns, 0 to 7, b not below a; with any other pair the call is refused by 1. */
    void fields(String what, Make make, OfField call) {
        for (int a = -1; a <= 8; a++) {
            for (int b = -1; b <= 8; b++) {
                HoleDeck deck = new HoleDeck();
                make.make(deck);
                long answer = call.on(deck, a, b);
                boolean isField = a >= 0 && b <= 7 && a <= b && b - a <= 5;
                check.due(what + " of " + a + " to " + b + ", status", deck.status(), isField ? 0 : 1);
                check.due(what + " of " + a + " to " + b + " answers", answer != HoleDeck.NONE, isField);
            }
        }
        int least = Integer.MIN_VALUE;
        int most = Integer.MAX_VALUE;
        int[][] pairs = {{0, 6}, {1, 7}, {0, 7}, {1, 0}, {7, 6}, {7, 8}, {8, 8}, {3, 8}, {-1, -1}, {-1, 0}, {-1, 4},
            {least, 0}, {least, most}, {least, least}, {7, most}, {most, most}, {most, least}, {most, 0}, {0, least}};
        for (int[] pair : pairs) {
            refused(what + " of " + pair[0] + " to " + pair[1], make, deck -> call.on(deck, pair[0], pair[1]), 1);
        }
    }

    private void compare(String what, Make make, Call call, int status, int look) {
        HoleDeck left = new HoleDeck();
        HoleDeck right = new HoleDeck();
        make.make(left);
        make.make(right);
        check.refused(what, right, call.on(right), status);
        List<Long> ofLeft = new ArrayList<>();
        List<Long> ofRight = new ArrayList<>();
        LOOKS[look].look(left, ofLeft);
        LOOKS[look].look(right, ofRight);
        int first = 0;
        while (first < ofLeft.size() && first < ofRight.size() && ofLeft.get(first).equals(ofRight.get(first))) {
            first++;
        }
        check.due(what + " changes " + NAMES[look] + ", sight " + first, ofLeft.equals(ofRight), true);
    }

    /** The answer and its status, so that NONE is told from -1. */
    private static void see(List<Long> seen, HoleDeck deck, long answer) {
        seen.add(answer);
        seen.add((long) deck.status());
    }

    private static void trays(HoleDeck deck, List<Long> seen) {
        for (int tray = 0; tray < 4; tray++) {
            int place = 0;
            do {
                see(seen, deck, deck.read(tray, place));
                place++;
            } while (deck.status() == 0 && place < 62);
        }
    }

    private static void sorts(HoleDeck deck, List<Long> seen) {
        for (int tray = 0; tray < 4; tray++) {
            for (int other = 0; other < 4; other++) {
                see(seen, deck, deck.pour(tray, 0, other, 0, 0) ? 1 : 0);
            }
            deck.write(tray, 0, 0x1122334455667788L);
            see(seen, deck, deck.read(tray, 0));
        }
    }

    private static void told(HoleDeck deck, List<Long> seen) {
        seen.add(deck.top());
        seen.add(deck.bottom());
        for (int k = -1; k < 5; k++) {
            see(seen, deck, deck.planned(k));
        }
        for (int what = 0; what < 5; what++) {
            see(seen, deck, deck.misread(what));
        }
        for (int card = 0; card < 31; card++) {
            see(seen, deck, deck.parted(card));
        }
        for (int what = 0; what < 3; what++) {
            see(seen, deck, deck.ran(what));
        }
    }

    private static void cards(HoleDeck deck, List<Long> seen) {
        int many = deck.many(0);
        seen.add((long) many);
        seen.add((long) deck.many(3));
        for (int place = 0; place <= many; place++) {
            seen.add((long) deck.lies(place));
        }
        for (int card = 0; card < many && card < 30; card++) {
            for (int what = 0; what < 8; what++) {
                seen.add((long) deck.card(card, what));
            }
            // of many cards each second one's habits are enough: calls are few
            if (many < 12 || card % 2 == 0) {
                for (int what = 16; what < 19; what++) {
                    seen.add((long) deck.card(card, what));
                }
            }
        }
        if (many < 12) {
            for (int card = 0; card < many; card++) {
                seen.add((long) deck.field(card, 0, 3));
                seen.add((long) deck.field(card, 4, 7));
            }
        }
    }

    private static void book(HoleDeck deck, List<Long> seen) {
        int codes = deck.many(1);
        int means = deck.many(2);
        seen.add((long) codes);
        seen.add((long) means);
        for (int code = 0; code <= codes; code++) {
            for (int what = 0; what < 3; what++) {
                see(seen, deck, deck.code(code, what));
            }
        }
        for (int mean = 0; mean <= means; mean++) {
            seen.add((long) deck.mean(mean, 0));
            seen.add((long) deck.mean(mean, 1));
            for (int code = 0; code < codes; code++) {
                seen.add((long) deck.joined(mean, code));
            }
        }
    }

    private static void fault(HoleDeck deck, List<Long> seen) {
        seen.add((long) deck.fault(0));
        seen.add((long) deck.fault(1));
    }

    /** The tape by how much more it takes, and by the book that its bytes are. */
    private static void tape(HoleDeck deck, List<Long> seen) {
        int has = deck.feed(0, 0, 0, 0, 0);
        seen.add((long) has);
        see(seen, deck, deck.book(has == HoleDeck.NONE ? 500 : has - 20));
        fault(deck, seen);
        book(deck, seen);
    }

    private static void run(HoleDeck deck, List<Long> seen) {
        see(seen, deck, deck.run());
        for (int what = 0; what < 3; what++) {
            see(seen, deck, deck.ran(what));
        }
        cards(deck, seen);
    }

    private static void marks(HoleDeck deck, List<Long> seen) {
        for (int i = 0; i < 4; i++) {
            see(seen, deck, deck.back());
            if (deck.status() == 0 && deck.many(0) < 12) {
                cards(deck, seen);
                seen.add((long) deck.many(1));
                seen.add((long) deck.code(0, 0));
                seen.add((long) deck.mean(0, 1));
                seen.add((long) deck.run());
            }
        }
    }

    /**
     * An object with something of all: trays 0 to 2 (tray 3 is missing), five cards, hours, wear, a book of three
     * codes and three means, a run, two marks, 40 bytes on the tape, and what planned, misread, parted, ran and the
     * fraction tell. It takes some 120 calls.
     */
    static void rich(HoleDeck deck) {
        Check.punchBy(deck, 2, "12", 0, 0);
        Check.punchBy(deck, 2, "31x", 1, 1);
        Check.punchBy(deck, 2, "20 5", 0, -1);
        Check.book(deck, "code a year 5;mean m holes 1;");
        deck.mark();
        Check.punchBy(deck, 2, "47    12", 1, 0);
        deck.pass(0, false);
        Check.program(deck, "turn;");
        deck.mark();
        Check.punchBy(deck, 2, "55     x", 0, 1);
        deck.parts(0, 0);
        deck.pass(1, true);
        deck.anew(2);
        deck.exchange(0, 4);
        Check.book(deck, "code a year 60;mean m holes 1 12;mean n holes 2;code b year 61;mean o holes 3;"
            + "code c year 0;join m o;join o n;");
        Check.program(deck, "loop 2;pass 0 stops;cut 1;end;when 0 5;turn;end;add 0 1;turn;");
        deck.run();
        deck.habit(0);
        Check.fill(deck, 0, 1, 6, 0);
        deck.plan(0, 2);
        Check.fill(deck, 1, 2, 0, 1, 2, 0, 1, 1, 0, 0, 0, 0, 0, 0, 14);
        deck.fewest(0, 1);
        Check.feed(deck, "code t year 7;mean tt holes 4 5;        ");
    }
}
