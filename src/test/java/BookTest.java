/** Promises 14 to 16, 18 and 19: the tape and the book. */
public final class BookTest {
    private static final Check check = new Check();
    private static final String CODE = "code a year 60;";

    public static void main(String[] args) {
        feed();
        bytesOfTheTape();
        book();
        oldBookStays();
        faultIsOfTheLatest();
        tokens();
        cutTexts();
        misplaced();
        names();
        numbers();
        meansAndJoins();
        tooMany();
        alike();
        codeAndMean();
        check.end();
    }

    private static void feed() {
        HoleDeck deck = new HoleDeck();
        for (int many = 20; many <= 500; many += 20) {
            check.due("feed", deck.feed(0, 0, 0, 0, 0), many);
        }
        check.due("above 500", deck.feed(0, 0, 0, 0, 0), -1);
        check.refused("book(501)", deck, deck.book(501), 1);
        check.refused("book(-1)", deck, deck.book(-1), 1);
        check.due("the tape is as it was", deck.feed(0, 0, 0, 0, 0), -1);
        check.taken("book(0)", deck, deck.book(0), 0);
        check.due("the tape is empty then", deck.feed(0, 0, 0, 0, 0), 20);
        check.refused("more than it has", deck, deck.book(21), 1);
    }

    private static void bytesOfTheTape() {
        HoleDeck deck = new HoleDeck();
        // "code a year 60;" by the highest byte first
        deck.feed(0x636F6465, 0x20612079, 0x65617220, 0x36303B20, 0xFF0A0A0A);
        check.refused("byte 255", deck, deck.book(17), 9);
        check.due("fault", deck.fault(0), 1);
        check.due("place", deck.fault(1), 16);
        deck.feed(0x636F6465, 0x20612079, 0x65617220, 0x36303B20, 0xFF0A0A0A);
        check.taken("without it", deck, deck.book(16), 0);
        check.due("one code", deck.many(1), 1);
        check.due("the tape is empty", deck.feed(0, 0, 0, 0, 0), 20);
    }

    private static void book() {
        HoleDeck deck = new HoleDeck();
        String text = " code first year 0;\n\nmean a holes 11 12 0 9; mean b holes 5;code second year99;"
            + "mean code" + "x holes 5;join a codex;join b codex;";
        check.taken("book", deck, Check.book(deck, text), 3);
        check.due("fault", deck.fault(0), 0);
        check.due("place", deck.fault(1), -1);
        check.due("holes", deck.mean(0, 1), 1024 + 2048 + 1 + 512);
        check.due("year 0", deck.code(0, 0), 0);
        check.due("year 99", deck.code(1, 0), 99);
        check.due("code of the latest mean", deck.mean(2, 0), 1);
        check.taken("an empty one", deck, Check.book(deck, "  \n "), 0);
        check.due("no codes then", deck.many(1), 0);
        check.due("no means then", deck.many(2), 0);
        check.taken("a code and a mean of one name", deck, Check.book(deck, CODE + "mean a holes 0;"), 1);
        check.taken("names of steps", deck, Check.book(deck, "code pass year 001;mean end holes 012;"), 1);
        check.due("a number with zeros ahead", deck.code(0, 0), 1);
        check.due("hole 12", deck.mean(0, 1), 2048);
        check.taken("names by their letters' order", deck, Check.book(deck, CODE + "mean az holes 1;mean za holes 2;"), 2);
        check.taken("as long as they go", deck, Check.book(deck, CODE + "mean b holes 1;mean bb holes 2;"), 2);
        check.taken("eight letters", deck, Check.book(deck, "code abcdefgh year 1;"), 0);
        check.taken("all twelve holes", deck, Check.book(deck, CODE + "mean m holes 0 1 2 3 4 5 6 7 8 9 11 12;"), 1);
        check.due("all holes", deck.mean(0, 1), 4095);
    }

    private static void oldBookStays() {
        HoleDeck deck = new HoleDeck();
        Check.book(deck, CODE + "mean m holes 1;");
        check.fault(deck, "code b year 7; mean n holes 2 2;", true, 4, 30);
        check.due("the tape is empty", deck.feed(0, 0, 0, 0, 0), 20);
        check.due("codes", deck.many(1), 1);
        check.due("the old year", deck.code(0, 0), 60);
        check.due("the old holes", deck.mean(0, 1), 2);
    }

    private static void faultIsOfTheLatest() {
        HoleDeck deck = new HoleDeck();
        check.fault(deck, "code", true, 2, 4);
        check.refused("book(9) refused by 1", deck, deck.book(9), 1);
        check.due("fault stays", deck.fault(0), 2);
        check.due("place stays", deck.fault(1), 4);
        check.due("fault(2)", deck.fault(2), -1);
        check.due("fault(-1)", deck.fault(-1), -1);
        check.fault(deck, "turn; ?", false, 1, 6);
        Check.program(deck, "turn;");
        check.due("fault without one", deck.fault(0), 0);
        check.due("place without one", deck.fault(1), -1);
    }

    private static void tokens() {
        check.fault("Code a year 1;", true, 1, 0);
        check.fault("code a,year 1;", true, 1, 6);
        check.fault("code a year 1234;", true, 1, 12);
        check.fault("1234", true, 1, 0);
        check.fault("code 1234 year 1;", true, 1, 5);
        check.fault("code a\tyear 1;", true, 1, 6);
        check.fault("code a year 1;\u0000", true, 1, 14);
        check.fault("code a year 1;\u00e9", true, 1, 14);
        check.fault("code a year 1:", true, 1, 13);
    }

    /** What stands on the tape behind the first n bytes is not of the text, and a full tape has nothing behind it. */
    private static void cutTexts() {
        HoleDeck deck = new HoleDeck();
        Check.feed(deck, "code a year 600;");
        check.refused("a number cut", deck, deck.book(14), 9);
        check.due("fault", deck.fault(0), 2);
        check.due("place", deck.fault(1), 14);
        Check.feed(deck, "code abcdefghi year 1;");
        check.refused("a word cut", deck, deck.book(13), 9);
        check.due("place", deck.fault(1), 13);
        Check.feed(deck, "codex");
        check.refused("a word cut", deck, deck.book(4), 9);
        check.due("place", deck.fault(1), 4);
        Check.feed(deck, CODE + "   code");
        check.taken("blanks cut", deck, deck.book(17), 0);
        for (char last : new char[] {' ', 'a', '1', ';'}) {
            StringBuilder full = new StringBuilder();
            for (int i = 0; i < 500; i++) {
                full.append(i < 490 ? ' ' : last);
            }
            int got = Check.book(deck, full.toString());
            check.due("a full tape", got, last == ' ' ? 0 : -1);
            check.due("its place", deck.fault(1), last == ' ' ? -1 : 490);
        }
        StringBuilder full = new StringBuilder(CODE);
        for (int i = full.length(); i < 494; i++) {
            full.append(' ');
        }
        check.fault(deck, full + "code b", true, 2, 500);
    }

    private static void misplaced() {
        check.fault("year", true, 2, 0);
        check.fault(";", true, 2, 0);
        check.fault("12", true, 2, 0);
        check.fault("codes a year 1;", true, 2, 0);
        check.fault("code", true, 2, 4);
        check.fault("code  \n", true, 2, 7);
        check.fault("code 12 year 1;", true, 2, 5);
        check.fault("code ; year 1;", true, 2, 5);
        check.fault("code a", true, 2, 6);
        check.fault("code a b", true, 2, 7);
        check.fault("code a year;", true, 2, 11);
        check.fault("code a year x;", true, 2, 12);
        check.fault("code a year 1", true, 2, 13);
        check.fault("code a year 1 2;", true, 2, 14);
        check.fault("code a year", true, 2, 11);
        check.fault(CODE + "mean", true, 2, 19);
        check.fault(CODE + "mean b", true, 2, 21);
        check.fault(CODE + "mean b holes", true, 2, 27);
        check.fault(CODE + "mean b holes 1;join", true, 2, 34);
        check.fault(CODE + "mean b holes 1;join b", true, 2, 36);
        check.fault(CODE + "mean b holes 1;code c year 1;mean d holes 1;join b d", true, 2, 67);
        check.fault(CODE + "mean b holes 1;code c year 1;mean d holes 1;join b d d", true, 2, 68);
        check.fault(CODE + "mean b 1;", true, 2, 22);
        check.fault(CODE + "mean b holes;", true, 2, 27);
        check.fault(CODE + "mean b holes 1", true, 2, 29);
        check.fault(CODE + "mean b holes 1 x;", true, 2, 30);
        check.fault(CODE + "mean b holes 1; join b;", true, 2, 37);
        check.fault(CODE + "mean b holes 1; join;", true, 2, 35);
    }

    private static void names() {
        for (String word : new String[] {"code", "year", "mean", "holes", "join"}) {
            check.fault("code " + word + " year 1;", true, 2, 5);
            check.fault(CODE + "mean " + word + " holes 1;", true, 2, 20);
            check.fault(CODE + "join " + word + " b;", true, 2, 20);
        }
        check.fault("code abcdefghi year 1;", true, 2, 5);
        check.fault(CODE + "mean abcdefghi holes 1;", true, 2, 20);
        check.fault(CODE + "code b year 1;code a year 1;", true, 3, 34);
        check.fault(CODE + "mean m holes 1;mean m holes 2;", true, 3, 35);
        check.fault(CODE + "mean m holes 1;code b year 1;mean m holes 2;", true, 3, 49);
        check.fault(CODE + "join x y;", true, 3, 20);
        check.fault(CODE + "mean m holes 1;join m y;", true, 3, 37);
        check.fault(CODE + "mean m holes 1;join m a;", true, 3, 37);
        check.fault(CODE + "mean abcdefgh holes 1;mean abcdefgi holes 1;", true, 7, 58);
    }

    private static void numbers() {
        check.fault("code a year 100;", true, 4, 12);
        check.fault("code a year 999", true, 4, 12);
        check.fault(CODE + "mean b holes 10;", true, 4, 28);
        check.fault(CODE + "mean b holes 13;", true, 4, 28);
        check.fault(CODE + "mean b holes 1 999;", true, 4, 30);
        check.fault(CODE + "mean b holes 1 2 01;", true, 4, 32);
        check.fault(CODE + "mean b holes 12 12;", true, 4, 31);
    }

    private static void meansAndJoins() {
        check.fault("mean a holes 1;", true, 5, 0);
        check.fault("  mean", true, 5, 2);
        String two = CODE + "mean m holes 1;mean n holes 2;code b year 61;mean o holes 1;mean p holes 2;";
        int at = two.length();
        check.fault(two + "join m n;", true, 5, at + 7);
        check.fault(two + "join m m;", true, 5, at + 7);
        check.fault(two + "join m o;join m p;", true, 5, at + 16);
        check.fault(two + "join m o;join m o", true, 5, at + 16);
        HoleDeck deck = new HoleDeck();
        check.taken("to and fro", deck, Check.book(deck, two + "join m o;join n o;join o m;join p m;"), 4);
        check.due("m in b", deck.joined(0, 1), 2);
        check.due("n in b", deck.joined(1, 1), 2);
        check.due("o in a", deck.joined(2, 0), 0);
        check.due("p in a", deck.joined(3, 0), 0);
    }

    private static void tooMany() {
        String codes = "code a year 1;code b year 1;code c year 1;code d year 1;";
        HoleDeck deck = new HoleDeck();
        Check.book(deck, codes);
        check.taken("four codes", deck, deck.many(1), 4);
        check.fault(codes + "code", true, 6, codes.length());
        StringBuilder means = new StringBuilder("code a year 1;");
        for (int i = 0; i < 20; i++) {
            means.append("mean ").append((char) ('a' + i)).append(" holes").append(i % 10);
            means.append(i < 10 ? ";" : " 11;");
        }
        check.taken("twenty means", deck, Check.book(deck, means.toString()), 20);
        check.due("all of one code", deck.code(0, 2), 20);
        check.fault(means + "mean", true, 6, means.length());
        StringBuilder joins = new StringBuilder();
        for (int i = 0; i < 4; i++) {
            char name = (char) ('a' + i);
            joins.append("code ").append(name).append(" year 1;mean ").append(name).append(" holes 1;");
        }
        for (int i = 0; i < 4; i++) {
            for (int k = 0; k < 4; k++) {
                if (i != k) {
                    joins.append("join ").append((char) ('a' + i)).append(' ').append((char) ('a' + k)).append(';');
                }
            }
        }
        check.taken("twelve joins", deck, Check.book(deck, joins.toString()), 4);
        check.taken("and twelve again", deck, Check.book(deck, joins.toString()), 4);
        String far = means + "code b year 2;mean";
        check.fault(far, true, 6, far.length() - 4);
        check.taken("the last means of many", deck, Check.book(deck, "code a year 1;mean a holes 1;mean b holes 2;"
            + "mean c holes 3;mean d holes 4;mean e holes 5;mean f holes 6;mean g holes 7;code b year 2;mean h holes 1;"
            + "mean i holes 2;join g h;join i f;"), 9);
        check.due("g in b", deck.joined(6, 1), 7);
        check.due("i in a", deck.joined(8, 0), 5);
        check.due("h in a", deck.joined(7, 0), -1);
        check.due("f in b", deck.joined(5, 1), -1);
        check.fault(joins + "join ?", true, 6, joins.length());
    }

    private static void alike() {
        check.fault(CODE + "mean m holes 1 2;mean n holes 2 1;", true, 7, 48);
        check.fault(CODE + "mean m holes 1 2;mean n holes 2 1 year", true, 2, 49);
        HoleDeck deck = new HoleDeck();
        String text = CODE + "mean m holes 1;code b year 1;mean n holes 1;";
        check.taken("alike in another code", deck, Check.book(deck, text), 2);
    }

    private static void codeAndMean() {
        HoleDeck deck = new HoleDeck();
        check.refused("no code yet", deck, deck.code(0, 0), 1);
        check.refused("no mean yet", deck, deck.mean(0, 0), 1);
        Check.book(deck, "code a year 17;code b year 18;mean m holes 3;mean n holes 4;code c year 2;mean o holes 4;");
        check.taken("year", deck, deck.code(1, 0), 18);
        check.refused("first mean of none", deck, deck.code(0, 1), 6);
        check.taken("how many of none", deck, deck.code(0, 2), 0);
        check.taken("first mean", deck, deck.code(1, 1), 0);
        check.taken("first mean of the last", deck, deck.code(2, 1), 2);
        check.taken("how many", deck, deck.code(1, 2), 2);
        check.refused("code 3", deck, deck.code(3, 0), 1);
        check.refused("code -1", deck, deck.code(-1, 0), 1);
        check.refused("code what 3", deck, deck.code(0, 3), 1);
        check.refused("code what -1", deck, deck.code(0, -1), 1);
        check.taken("code of a mean", deck, deck.mean(1, 0), 1);
        check.taken("holes of a mean", deck, deck.mean(1, 1), 16);
        check.refused("mean 3", deck, deck.mean(3, 0), 1);
        check.refused("mean -1", deck, deck.mean(-1, 0), 1);
        check.refused("mean what 2", deck, deck.mean(0, 2), 1);
        check.refused("mean what -1", deck, deck.mean(0, -1), 1);
    }
}
