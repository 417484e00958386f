import java.util.Random;

/** Any calls with any numbers, from a fixed seed: none throws, and with a status other than 0 none answers. */
public final class AnyCallsTest {
    private static final Check check = new Check();
    private static final String[] WORDS = {"code ", "year ", "mean ", "holes ", "join ", "pass ", "stops ", "put ",
        "cut ", "turn ", "add ", "loop ", "end ", "when ", ";", ";", ";", "a ", "b ", "c ", "abcdefghi ", "0 ", "1 ",
        "2 ", "7 ", "11 ", "99 ", "100 ", "1000 ", "?", "\n"};
    private static final String[] PARTS = {"code a year 1;", "code b year 2;", "code c year 3;", "mean a holes 1;",
        "mean b holes 2 11;", "mean c holes 3;", "join a b;", "join b a;", "pass 0;", "pass 1 stops;", "put 0 1;",
        "cut 3;", "turn;", "add 0 1;", "loop 9;", "loop 2;", "when 0 1;", "end;", "end;", "end;"};

    private final Random random;
    private final HoleDeck deck = new HoleDeck();

    public static void main(String[] args) {
        for (int seed = 0; seed < 600; seed++) {
            AnyCallsTest test = new AnyCallsTest(seed);
            // a full deck, so that the last card of all is reached too
            for (int card = 0; card < 30 && seed % 3 == 0; card++) {
                Check.punch(test.deck, test.anyCard(), test.random.nextInt(2), test.random.nextInt(3) - 1);
            }
            test.calls();
        }
        check.end();
    }

    private AnyCallsTest(int seed) {
        random = new Random(seed);
    }

    private String anyCard() {
        StringBuilder text = new StringBuilder();
        for (int column = 0; column < 8; column++) {
            text.append("0123456789 x".charAt(random.nextInt(12)));
        }
        return text.toString();
    }

    private int any() {
        switch (random.nextInt(24)) {
            case 0:
                return Integer.MIN_VALUE;
            case 1:
                return Integer.MAX_VALUE;
            case 2:
                return random.nextInt();
            case 3:
                return -1 - random.nextInt(3);
            case 4:
                return random.nextInt(600);
            default:
                return random.nextInt(random.nextInt(4) == 0 ? 32 : 4);
        }
    }

    private void calls() {
        for (int i = 0; i < 400; i++) {
            int call = random.nextInt(46);
            boolean hasStatus = call > 1;
            long got = call < 23 ? lowCall(call) : highCall(call);
            if (hasStatus && deck.status() != 0) {
                check.due("call " + call + " with status " + deck.status(), got, call == 43 ? 0 : -1);
            }
            if (call == 43) {
                check.due("bottom above 0", deck.bottom() > 0, true);
            }
        }
    }

    private void write() {
        int tray = random.nextInt(4);
        deck.tray(tray, random.nextInt(4), random.nextInt(4) == 0 ? random.nextInt(61) : 13);
        for (int i = 0; i < 13; i++) {
            boolean hole = random.nextInt(3) > 0;
            deck.write(tray, i, hole ? 1L << random.nextInt(12) : random.nextInt(3) - random.nextInt(40) / 39);
        }
    }

    private long text(boolean ofBook) {
        StringBuilder text = new StringBuilder();
        int many = random.nextInt(40);
        boolean plain = random.nextInt(4) == 0;
        for (int i = 0; i < many && text.length() < 480; i++) {
            text.append(plain ? WORDS[random.nextInt(WORDS.length)] : PARTS[random.nextInt(PARTS.length)]);
        }
        int length = Math.min(random.nextInt(12) == 0 ? any() : text.length(), 501);
        Check.feed(deck, text.toString());
        return ofBook ? deck.book(length) : deck.program(length);
    }

    private long lowCall(int call) {
        switch (call) {
            case 0:
                return deck.fault(any());
            case 1:
                return deck.feed(any(), any(), any(), any(), any());
            case 2:
                return deck.read(any(), any());
            case 3:
                return deck.pour(any(), any(), any(), any(), any()) ? 0 : -1;
            case 4:
                return deck.write(any(), any(), any()) ? 0 : -1;
            case 5:
                return deck.tray(any(), any(), any()) ? 0 : -1;
            case 6:
            case 7:
            case 8:
                write();
                return deck.punch(random.nextInt(4), random.nextInt(2), random.nextInt(3) - 1);
            case 9:
                return deck.punch(any(), any(), any());
            case 10:
                return deck.holes(any(), any(), 1 << random.nextInt(13)) ? 0 : -1;
            case 11:
                return deck.card(any(), any());
            case 12:
                return deck.lies(any());
            case 13:
                return deck.exchange(any(), any()) ? 0 : -1;
            case 14:
            case 15:
                return text(true);
            case 16:
                return deck.many(any());
            case 17:
                return deck.code(any(), any());
            case 18:
                return deck.mean(any(), any());
            case 19:
                return deck.pass(any(), random.nextBoolean());
            case 20:
                return deck.ordered(any(), any());
            case 21:
                return deck.plan(any(), any());
            default:
                return deck.planned(any());
        }
    }

    private long highCall(int call) {
        switch (call) {
            case 23:
                return deck.field(any(), any(), any());
            case 24:
                return deck.sum(any(), any(), any(), any());
            case 25:
                return deck.pocket(any(), any(), any(), any(), any());
            case 26:
                return deck.collate(any(), any());
            case 27:
                return deck.matched(any(), any(), any());
            case 28:
            case 29:
                return text(false);
            case 30:
                return deck.run();
            case 31:
                return deck.ran(any());
            case 32:
                return deck.fewest(any(), any());
            case 33:
                return deck.misread(any());
            case 34:
                return deck.parts(any(), any());
            case 35:
                return deck.parted(any());
            case 36:
                return deck.lost(any(), any(), any(), any(), any());
            case 37:
                return deck.meaning(any(), any(), any());
            case 38:
                return deck.joined(any(), any());
            case 39:
                return deck.count(any(), any());
            case 40:
                return deck.meant(any(), any(), any(), any());
            case 41:
                return deck.anew(any());
            case 42:
                return deck.list(any(), any(), any());
            case 43:
                return deck.habit(any()) ? 1 : 0;
            case 44:
                return deck.mark();
            default:
                return deck.back();
        }
    }
}
