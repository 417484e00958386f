/** Promises 1 to 8: a new object, the status, the fraction, trays. */
public final class TraysTest {
    private static final Check check = new Check();

    public static void main(String[] args) {
        newObject();
        status();
        trays();
        writeAndRead();
        pour();
        pourOrder();
        check.end();
    }

    private static void newObject() {
        HoleDeck deck = new HoleDeck();
        check.due("NONE", HoleDeck.NONE, -1);
        check.due("status", deck.status(), 0);
        check.due("top", deck.top(), 0);
        check.due("bottom", deck.bottom(), 1);
        check.due("fault(0)", deck.fault(0), -1);
        check.due("fault(1)", deck.fault(1), -1);
        for (int what = 0; what < 4; what++) {
            check.taken("many(" + what + ")", deck, deck.many(what), 0);
        }
        for (int tray = 0; tray < 4; tray++) {
            check.refused("read of a missing tray", deck, deck.read(tray, 0), 2);
        }
        check.refused("back without a mark", deck, deck.back(), 6);
        check.refused("book(1) of an empty tape", deck, deck.book(1), 1);
        check.refused("ran ahead of any run", deck, deck.ran(0), 6);
        check.taken("the empty run", deck, deck.run(), 0);
    }

    private static void status() {
        HoleDeck deck = new HoleDeck();
        deck.read(9, 0);
        check.due("status of a refused read", deck.status(), 1);
        deck.top();
        deck.bottom();
        deck.fault(0);
        deck.fault(7);
        deck.feed(0, 0, 0, 0, 0);
        deck.status();
        check.due("calls without a status leave it", deck.status(), 1);
        deck.tray(0, 0, 1);
        check.due("status of a call that was taken", deck.status(), 0);
    }

    private static void trays() {
        HoleDeck deck = new HoleDeck();
        check.refused("tray -1", deck, deck.tray(-1, 0, 1), 1);
        check.refused("tray 4", deck, deck.tray(4, 0, 1), 1);
        check.refused("sort -1", deck, deck.tray(0, -1, 1), 1);
        check.refused("sort 4", deck, deck.tray(0, 4, 1), 1);
        check.refused("many -1", deck, deck.tray(0, 0, -1), 1);
        check.refused("many 61", deck, deck.tray(0, 0, 61), 1);
        check.refused("still missing", deck, deck.read(0, 0), 2);
        check.taken("60 numbers", deck, deck.tray(3, 3, 60));
        check.taken("the last place", deck, deck.read(3, 59), 0);
        check.refused("behind the last place", deck, deck.read(3, 60), 3);
        check.taken("none at all", deck, deck.tray(0, 0, 0));
        check.refused("no place in it", deck, deck.read(0, 0), 3);
        deck.write(3, 5, 77);
        check.taken("made anew", deck, deck.tray(3, 3, 60));
        check.taken("is zeros again", deck, deck.read(3, 5), 0);
        deck.write(3, 5, 78);
        deck.tray(3, 3, 61);
        check.taken("a refused tray changes nothing", deck, deck.read(3, 5), 78);
    }

    private static void writeAndRead() {
        HoleDeck deck = new HoleDeck();
        long v = 0x1122334455667788L;
        long[] cuts = {(byte) 0x88, 0x7788, 0x55667788, v};
        for (int sort = 0; sort < 4; sort++) {
            deck.tray(sort, sort, 3);
            check.taken("write", deck, deck.write(sort, 2, v));
            check.taken("cut to sort " + sort, deck, deck.read(sort, 2), cuts[sort]);
            deck.write(sort, 0, -1);
            check.taken("-1 in sort " + sort, deck, deck.read(sort, 0), -1);
            check.taken("the place between", deck, deck.read(sort, 1), 0);
        }
        deck.write(0, 0, 128);
        check.due("128 of 8 bits", deck.read(0, 0), -128);
        deck.write(1, 0, 0xFFFF8000L);
        check.due("16 bits", deck.read(1, 0), -32768);
        deck.write(2, 0, 1L << 31);
        check.due("32 bits", deck.read(2, 0), Integer.MIN_VALUE);
        check.refused("write to tray 4", deck, deck.write(4, -1, 0), 1);
        check.refused("read of tray -1", deck, deck.read(-1, 0), 1);
        check.refused("write below 0", deck, deck.write(0, -1, 0), 3);
        check.refused("read below 0", deck, deck.read(0, -1), 3);
        check.refused("write behind the end", deck, deck.write(0, 3, 0), 3);
        check.refused("read far behind the end", deck, deck.read(0, Integer.MAX_VALUE), 3);
        HoleDeck fresh = new HoleDeck();
        check.refused("missing comes ahead of the place", fresh, fresh.write(0, -1, 0), 2);
    }

    private static void pour() {
        HoleDeck deck = new HoleDeck();
        Check.fill(deck, 0, 1, 1, 2, 3, 4, 5);
        Check.fill(deck, 1, 1, 9, 9, 9);
        check.taken("pour", deck, deck.pour(0, 3, 1, 1, 2));
        row("into another one", deck, 1, 9, 4, 5);
        row("the other stays", deck, 0, 1, 2, 3, 4, 5);
        check.taken("upwards within one", deck, deck.pour(0, 0, 0, 1, 4));
        row("as they were", deck, 0, 1, 1, 2, 3, 4);
        check.taken("downwards within one", deck, deck.pour(0, 1, 0, 0, 4));
        row("as they were", deck, 0, 1, 2, 3, 4, 4);
        check.taken("none, from the end", deck, deck.pour(0, 5, 1, 3, 0));
        check.refused("none, from behind the end", deck, deck.pour(0, 6, 1, 0, 0), 3);
        check.refused("too few in the first", deck, deck.pour(0, 4, 1, 0, 2), 3);
        check.refused("too few in the other", deck, deck.pour(0, 0, 1, 2, 2), 3);
        check.refused("so many", deck, deck.pour(0, 1, 1, 0, Integer.MAX_VALUE), 3);
        check.refused("so far", deck, deck.pour(0, Integer.MAX_VALUE, 1, 0, 1), 3);
        row("nothing changed", deck, 1, 9, 4, 5);
    }

    private static void pourOrder() {
        HoleDeck deck = new HoleDeck();
        deck.tray(0, 0, 2);
        deck.tray(1, 1, 2);
        check.refused("no tray from", deck, deck.pour(4, 0, 0, 0, 0), 1);
        check.refused("no tray to", deck, deck.pour(0, 0, -1, 0, 0), 1);
        check.refused("place below 0, missing", deck, deck.pour(2, -1, 0, 0, 0), 1);
        check.refused("at below 0, unlike", deck, deck.pour(0, 0, 1, -1, 0), 1);
        check.refused("many below 0", deck, deck.pour(0, 0, 0, 0, -1), 1);
        check.refused("missing from", deck, deck.pour(2, 9, 0, 0, 0), 2);
        check.refused("missing to", deck, deck.pour(0, 9, 3, 0, 0), 2);
        check.refused("unlike ahead of the place", deck, deck.pour(0, 9, 1, 9, 9), 8);
    }

    private static void row(String what, HoleDeck deck, int tray, long... numbers) {
        for (int i = 0; i < numbers.length; i++) {
            check.due(what + ", place " + i, deck.read(tray, i), numbers[i]);
        }
    }
}
