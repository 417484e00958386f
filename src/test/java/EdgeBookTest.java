/** Promises 14 to 16, 18 and 19, and section 2, at their edges: each sentence has a test of its own. */
public final class EdgeBookTest {
    private static final Check check = new Check();
    private static final Twins twins = new Twins(check);
    private static final int LEAST = Integer.MIN_VALUE;
    private static final int MOST = Integer.MAX_VALUE;
    private static final String CODE = "code a year 60;";
    private static final String[] KEYWORDS = {"code", "year", "mean", "holes", "join"};

    public static void main(String[] args) {
        twentyBytes();
        fiveHundredBytes();
        highestByteFirst();
        bytesOfTheBook();
        emptiesTheTape();
        refusedBook();
        faultLeavesTheOld();
        takenInPlaceOfTheOld();
        faultOfTheLatest();
        faultOfProgramsToo();
        everyByteAtTheStart();
        everyByteWithin();
        blanksBetween();
        asLongAsTheyGo();
        digitsOfANumber();
        noParts();
        namesOfEightLetters();
        namesThatAreWords();
        years();
        holesOfAMean();
        twelveHoles();
        textsEnd();
        cannotStandThere();
        namesTwice();
        namesOfJoin();
        holeTwice();
        meanAheadOfAnyCode();
        joinsWithinACode();
        joinedAlready();
        fourCodes();
        twentyMeans();
        twelveJoins();
        likeHoles();
        firstAlongTheText();
        leastKindOfAToken();
        codeCall();
        meanCall();
        check.end();
    }

    private static HoleDeck taken(String text, int means) {
        HoleDeck deck = new HoleDeck();
        check.taken("\"" + text + "\"", deck, Check.book(deck, text), means);
        check.due("\"" + text + "\" has no FAULT", deck.fault(0), 0);
        check.due("\"" + text + "\" has no place of one", deck.fault(1), -1);
        return deck;
    }

    private static void fault(String text, int kind, int place) {
        check.fault(text, true, kind, place);
    }

    // ---- the tape

    /** feed(): "Twenty bytes come behind those on the tape ..: how many it has". */
    private static void twentyBytes() {
        HoleDeck deck = new HoleDeck();
        for (int many = 20; many <= 100; many += 20) {
            check.due("so many bytes", deck.feed(0, 0, 0, 0, 0), many);
        }
        Check.feed(deck, "");
        HoleDeck two = new HoleDeck();
        two.feed(0x636F6465, 0x20612079, 0x65617220, 0x36303B0A, 0x6D65616E);
        two.feed(0x206D2068, 0x6F6C6573, 0x20313B20, 0x20202020, 0x20202020);
        check.taken("a PART that goes over from one feed to the next", two, two.book(40), 1);
        check.taken("its HOLES", two, two.mean(0, 1), 2);
    }

    /** "NONE if there would be more than 500." */
    private static void fiveHundredBytes() {
        HoleDeck deck = new HoleDeck();
        for (int many = 20; many <= 480; many += 20) {
            deck.feed(0x20202020, 0x20202020, 0x20202020, 0x20202020, 0x20202020);
        }
        check.due("just 500", deck.feed(0x20202020, 0x20202020, 0x20202020, 0x20202020, 0x20202020), 500);
        check.due("more than 500", deck.feed(0x3F3F3F3F, 0x3F3F3F3F, 0x3F3F3F3F, 0x3F3F3F3F, 0x3F3F3F3F), -1);
        check.due("again", deck.feed(0x3F3F3F3F, 0x3F3F3F3F, 0x3F3F3F3F, 0x3F3F3F3F, 0x3F3F3F3F), -1);
        check.taken("all 500 are as they were", deck, deck.book(500), 0);
        check.due("empty then", deck.feed(0, 0, 0, 0, 0), 20);
    }

    /** "the highest of each int first": each of the five ints, with the highest bit set too. */
    private static void highestByteFirst() {
        for (int at = 0; at < 20; at++) {
            for (int odd : new int[] {0x3F, 0x80, 0xFF, 0x00}) {
                int[] ints = {0x20202020, 0x20202020, 0x20202020, 0x20202020, 0x20202020};
                int shift = 24 - at % 4 * 8;
                ints[at / 4] = ints[at / 4] & ~(0xFF << shift) | odd << shift;
                HoleDeck deck = new HoleDeck();
                deck.feed(ints[0], ints[1], ints[2], ints[3], ints[4]);
                check.refused("byte " + odd + " at " + at, deck, deck.book(20), 9);
                check.due("FAULT 1", deck.fault(0), 1);
                check.due("its place", deck.fault(1), at);
            }
        }
    }

    /** book(): "The first n bytes of the tape": what stands behind them is not of the BOOK. */
    private static void bytesOfTheBook() {
        String text = CODE + "?                   ";
        for (int n = 15; n <= 35; n++) {
            HoleDeck deck = new HoleDeck();
            Check.feed(deck, text);
            check.due("the first " + n, deck.book(n), n == 15 ? 0 : -1);
            check.due("the first " + n + ", STATUS", deck.status(), n == 15 ? 0 : 9);
            check.due("the first " + n + ", FAULT", deck.fault(0), n == 15 ? 0 : 1);
        }
        HoleDeck none = new HoleDeck();
        Check.feed(none, "????");
        check.taken("the first 0", none, none.book(0), 0);
        HoleDeck digits = new HoleDeck();
        Check.feed(digits, "code a year 1234;");
        check.refused("a NUMBER of four digits cut to three", digits, digits.book(15), 9);
        check.due("that can't be", digits.fault(0), 4);
        check.due("its place", digits.fault(1), 12);
    }

    /** "(which is empty then)": with n less than all, too. */
    private static void emptiesTheTape() {
        for (int n : new int[] {0, 1, 40}) {
            HoleDeck deck = new HoleDeck();
            Check.feed(deck, " ".repeat(40));
            check.taken("book of " + n, deck, deck.book(n), 0);
            check.refused("nothing is left", deck, deck.book(1), 1);
            check.taken("but 0 bytes", deck, deck.book(0), 0);
            check.due("the tape begins anew", deck.feed(0, 0, 0, 0, 0), 20);
        }
    }

    /** "(1: n below 0, or more than the tape has, too". */
    private static void refusedBook() {
        twins.span("book of", Twins::rich, 0, 40, (deck, n) -> deck.book(n));
        HoleDeck deck = new HoleDeck();
        Check.feed(deck, " ".repeat(500));
        check.refused("501 of 500", deck, deck.book(501), 1);
        check.taken("500 of 500", deck, deck.book(500), 0);
        check.refused("1 ahead of 9", deck, deck.book(1), 1);
        Check.feed(deck, "?");
        check.refused("more than it has, and a FAULT", deck, deck.book(21), 1);
        check.due("no FAULT was told of it", deck.fault(0), 0);
        check.refused("and the tape has it still", deck, deck.book(20), 9);
    }

    /** "9: the old one stays"; "(but book(), program() with 9 the tape, and what fault() tells)". */
    private static void faultLeavesTheOld() {
        twins.faulty("a BOOK with a FAULT at its end", deck -> {
            Twins.rich(deck);
            Check.feed(deck, "code u year 8;mean uu holes 1;mean vv holes 1;        ");
        }, deck -> deck.book(92));
        twins.faulty("a BOOK that ends too early", Twins::rich, deck -> deck.book(31));
        twins.faulty("a BOOK that begins so", deck -> {
            deck.mark();
            Check.feed(deck, "!");
        }, deck -> deck.book(1));
    }

    /** "A BOOK that is taken is there in place of that ahead." */
    private static void takenInPlaceOfTheOld() {
        HoleDeck deck = new HoleDeck();
        Check.book(deck, "code a year 1;mean m holes 1;mean n holes 2;code b year 2;mean o holes 1;join m o;join o n;");
        Check.book(deck, "code x year 3;mean p holes 5;code y year 4;mean q holes 6;");
        check.taken("two CODES", deck, deck.many(1), 2);
        check.taken("two MEANS", deck, deck.many(2), 2);
        check.taken("its own YEAR", deck, deck.code(0, 0), 3);
        check.taken("its own HOLES", deck, deck.mean(0, 1), 32);
        check.refused("no join of the old one", deck, deck.joined(0, 1), 6);
        check.refused("nor the other way", deck, deck.joined(1, 0), 6);
        check.refused("no MEAN 2", deck, deck.mean(2, 0), 1);
        check.taken("names of the old one are free", deck, Check.book(deck, "code a year 9;mean m holes 1;"), 1);
        check.fault(deck, CODE + "mean x holes 1;join m x;", true, 3, 35);
        check.taken("one CODE still", deck, deck.many(1), 1);
        deck.book(0);
        check.taken("an empty BOOK: no CODES", deck, deck.many(1), 0);
        check.taken("no MEANS", deck, deck.many(2), 0);
        check.refused("no CODE 0", deck, deck.code(0, 0), 1);
        check.refused("no MEAN 0", deck, deck.mean(0, 0), 1);
    }

    /** fault(): "NONE for others, and ahead of any"; "(NONE without)". */
    private static void faultOfTheLatest() {
        HoleDeck deck = new HoleDeck();
        int[] others = {-1, 2, 3, LEAST, MOST};
        check.due("ahead of any", deck.fault(0), -1);
        check.due("its place", deck.fault(1), -1);
        deck.book(1);
        check.due("STATUS 1 tells none", deck.fault(0), -1);
        deck.book(0);
        check.due("without one 0", deck.fault(0), 0);
        check.due("its place", deck.fault(1), -1);
        check.fault(deck, CODE + "mean", true, 2, 19);
        for (int other : others) {
            check.due("NONE for others", deck.fault(other), -1);
        }
        check.refused("refused by 1", deck, deck.book(-1), 1);
        check.due("the latest with 0 or 9", deck.fault(0), 2);
        check.due("its place", deck.fault(1), 19);
        Check.book(deck, CODE);
        check.due("0 of one that is taken", deck.fault(0), 0);
        check.due("no place", deck.fault(1), -1);
        check.fault(deck, "?", true, 1, 0);
    }

    /** "Of the latest book() or program()". */
    private static void faultOfProgramsToo() {
        HoleDeck deck = new HoleDeck();
        check.fault(deck, "  ?", true, 1, 2);
        check.fault(deck, "turn;loop 0;", false, 4, 10);
        check.refused("book refused by 1", deck, deck.book(1), 1);
        check.refused("program refused by 1", deck, deck.program(1), 1);
        check.due("that of the program", deck.fault(0), 4);
        check.due("its place", deck.fault(1), 10);
        Check.book(deck, " ");
        check.due("that of the book", deck.fault(0), 0);
        check.fault(deck, "end;", false, 2, 0);
        deck.program(0);
        check.due("that of the empty RUN", deck.fault(0), 0);
        check.due("its place", deck.fault(1), -1);
    }

    // ---- TOKENS

    /** "1 no TOKEN begins so": each of the 256 bytes at the text's beginning. */
    private static void everyByteAtTheStart() {
        for (int sign = 0; sign < 256; sign++) {
            HoleDeck deck = new HoleDeck();
            deck.feed(sign << 24, 0, 0, 0, 0);
            boolean blank = sign == 10 || sign == 32;
            boolean token = sign >= 'a' && sign <= 'z' || sign >= '0' && sign <= '9' || sign == ';';
            check.due("byte " + sign, deck.book(1), blank ? 0 : -1);
            check.due("byte " + sign + ", FAULT", deck.fault(0), blank ? 0 : token ? 2 : 1);
            check.due("byte " + sign + ", place", deck.fault(1), blank ? -1 : 0);
        }
    }

    /** The same behind a WORD, a NUMBER and the SIGN: a byte that begins no TOKEN ends the one ahead of it. */
    private static void everyByteWithin() {
        for (int sign = 0; sign < 256; sign++) {
            boolean blank = sign == 10 || sign == 32;
            boolean letter = sign >= 'a' && sign <= 'z';
            boolean digit = sign >= '0' && sign <= '9';
            boolean token = letter || digit || sign == ';';
            char odd = (char) sign;
            int kind = blank || letter ? 0 : token ? 2 : 1;
            afterByte("code b" + odd + " year 1;", kind, 6);
            afterByte("code b year 1" + odd + ";", blank || digit ? 0 : token && !letter ? 0 : letter ? 2 : 1, 13);
            afterByte("code b year 1;" + odd, blank ? 0 : token ? 2 : 1, 14);
        }
    }

    private static void afterByte(String text, int kind, int place) {
        HoleDeck deck = new HoleDeck();
        int got = Check.book(deck, text);
        // a second SIGN behind the first is one that can't stand there
        boolean doubled = text.startsWith("code b year 1;;");
        int wantKind = doubled ? 2 : kind;
        int wantPlace = doubled ? 14 : place;
        check.due("\"" + text + "\"", got, wantKind == 0 ? 0 : -1);
        check.due("\"" + text + "\" FAULT", deck.fault(0), wantKind);
        check.due("\"" + text + "\" place", deck.fault(1), wantKind == 0 ? -1 : wantPlace);
    }

    /** "between them blanks (10, 32)": none where TOKENS end of themselves, any number of them, at both ends. */
    private static void blanksBetween() {
        taken("code a year 1;mean b holes 1;", 1);
        taken("\n\n code\na\n \nyear\n1\n;\n mean  b  holes  1  ; \n", 1);
        taken("code a year1;mean b holes1;", 1);
        taken(" ".repeat(480) + "code a year 1;      ", 0);
        fault("codea year 1;", 2, 0);
        fault("code ayear 1;", 2, 11);
        fault(CODE + "mean b holes 1 2 3 4 5 6 7 8 9 0 11 12 \t;", 1, 54);
        fault("code a year 1\r;", 1, 13);
        fault("code a year 1;\u00a0", 1, 14);
    }

    /** "TOKENS, as long as they go." */
    private static void asLongAsTheyGo() {
        HoleDeck deck = taken(CODE + "mean m holes 12;", 1);
        check.taken("12, not 1 and 2", deck, deck.mean(0, 1), 2048);
        deck = taken(CODE + "mean m holes 1 2;", 1);
        check.taken("1 and 2", deck, deck.mean(0, 1), 6);
        deck = taken("code codes year 012;", 0);
        check.taken("a WORD that begins as another", deck, deck.code(0, 0), 12);
        fault("codes a year 1;", 2, 0);
        fault("cod a year 1;", 2, 0);
        fault(CODE + "mean m hole 1;", 2, 22);
        fault(CODE + "mean m holess 1;", 2, 22);
        fault("code a years 1;", 2, 7);
        fault("code a yea 1;", 2, 7);
    }

    /** "NUMBERS (1 to 3 digits)"; "(a NUMBER of 4 digits and more: at its first)". */
    private static void digitsOfANumber() {
        HoleDeck deck = taken("code a year 7;", 0);
        check.taken("one digit", deck, deck.code(0, 0), 7);
        deck = taken("code a year 07;", 0);
        check.taken("two digits", deck, deck.code(0, 0), 7);
        deck = taken("code a year 007;", 0);
        check.taken("three digits", deck, deck.code(0, 0), 7);
        fault("code a year 0007;", 1, 12);
        fault("code a year 00000000000000000007;", 1, 12);
        fault("code a year 0007", 1, 12);
        fault(CODE + "mean m holes 1 0002;", 1, 30);
        fault("code 0007 year 1;", 1, 5);
        fault("0007", 1, 0);
        fault("007", 2, 0);
        fault("code a year 7x;", 2, 13);
        fault("code a year 0007x;", 1, 12);
    }

    // ---- BOOK and PART

    /** "BOOK: {PART}. ({ } any number of times.)": none at all. */
    private static void noParts() {
        taken("", 0);
        taken(" ", 0);
        taken("\n", 0);
        taken("\n ".repeat(250), 0);
        HoleDeck deck = taken(CODE, 0);
        check.taken("a CODE without a MEAN", deck, deck.code(0, 2), 0);
        deck = taken("code a year 1;code b year 1;mean m holes 1;", 1);
        check.taken("a MEAN is of the CODE told latest", deck, deck.mean(0, 0), 1);
    }

    /** "NAME: a WORD of 1 to 8 letters"; "also a WORD of 9 letters and more where a NAME must stand". */
    private static void namesOfEightLetters() {
        taken("code z year 1;", 0);
        taken("code abcdefgh year 1;", 0);
        taken(CODE + "mean zzzzzzzz holes 1;", 1);
        HoleDeck deck = taken(CODE + "mean zzzzzzzz holes 1;code b year 1;mean zzzzzzza holes 1;"
            + "join zzzzzzzz zzzzzzza;", 2);
        check.taken("eight letters joined", deck, deck.joined(0, 1), 1);
        fault("code abcdefghi year 1;", 2, 5);
        fault("code " + "a".repeat(100) + " year 1;", 2, 5);
        fault(CODE + "mean abcdefghi holes 1;", 2, 20);
        fault(CODE + "mean abcdefgh holes 1;join abcdefghi x;", 2, 42);
        fault(CODE + "mean abcdefgh holes 1;join abcdefgh abcdefghi;", 2, 51);
        fault("abcdefghi", 2, 0);
        taken("code abcdefgh year 1;code abcdefg year 1;code bcdefgh year 1;code abcdefgi year 1;", 0);
    }

    /** "that is none of code, year, mean, holes, join". */
    private static void namesThatAreWords() {
        for (String word : KEYWORDS) {
            int length = word.length();
            fault("code " + word + " year 1;", 2, 5);
            fault(CODE + "mean " + word + " holes 1;", 2, 20);
            fault(CODE + "mean m holes 1;join " + word + " m;", 2, 35);
            fault(CODE + "mean m holes 1;join m " + word + ";", 2, 37);
            taken("code " + word + "s year 1;mean x" + word + " holes 1;", 1);
            taken("code " + word.substring(0, length - 1) + " year 1;mean " + word.substring(1) + " holes 1;", 1);
        }
        for (String word : new String[] {"pass", "stops", "put", "cut", "turn", "add", "loop", "end", "when"}) {
            taken("code " + word + " year 1;mean " + word + " holes 1;", 1);
        }
    }

    /** "A CODE is of a YEAR (0 to 99)." */
    private static void years() {
        HoleDeck deck = taken("code a year 0;", 0);
        check.taken("YEAR 0", deck, deck.code(0, 0), 0);
        deck = taken("code a year 99;", 0);
        check.taken("YEAR 99", deck, deck.code(0, 0), 99);
        fault("code a year 100;", 4, 12);
        fault("code a year 999;", 4, 12);
        fault("code a year 100", 4, 12);
        taken("code a year 5;code b year 5;", 0);
    }

    /** "HOLES of a MEAN: numbers of HOLES (0 to 9, 11, 12)." */
    private static void holesOfAMean() {
        int[] bits = {1, 2, 4, 8, 16, 32, 64, 128, 256, 512, -1, 1024, 2048, -1};
        for (int hole = 0; hole < bits.length; hole++) {
            if (bits[hole] < 0) {
                fault(CODE + "mean m holes " + hole + ";", 4, 28);
                fault(CODE + "mean m holes 1 " + hole + ";", 4, 30);
            } else {
                HoleDeck deck = taken(CODE + "mean m holes " + hole + ";", 1);
                check.taken("HOLE " + hole, deck, deck.mean(0, 1), bits[hole]);
            }
        }
        fault(CODE + "mean m holes 100;", 4, 28);
        fault(CODE + "mean m holes 999;", 4, 28);
    }

    /** "holes NUMBER {NUMBER}": one and all twelve, in any order, no 13th. */
    private static void twelveHoles() {
        HoleDeck deck = taken(CODE + "mean m holes 12 11 9 8 7 6 5 4 3 2 1 0;", 1);
        check.taken("all twelve", deck, deck.mean(0, 1), 4095);
        String all = CODE + "mean m holes 0 1 2 3 4 5 6 7 8 9 11 12 ";
        for (int hole : new int[] {0, 9, 11, 12}) {
            fault(all + hole + ";", 4, all.length());
        }
        fault(all + "10;", 4, all.length());
        fault(all + "13;", 4, all.length());
        fault(all + "x;", 2, all.length());
        fault(all, 2, all.length());
        fault(CODE + "mean m holes ;", 2, 28);
        fault(CODE + "mean m holes x;", 2, 28);
    }

    // ---- FAULTS

    /** "2 it can't stand there (the end: the text's length": a BOOK cut behind each of its TOKENS. */
    private static void textsEnd() {
        String text = "code a year 1;mean m holes 1 2;code b year 2;mean n holes 3;join m n;";
        for (int n = 1; n < text.length(); n++) {
            HoleDeck deck = new HoleDeck();
            Check.feed(deck, text);
            int got = deck.book(n);
            boolean whole = text.charAt(n - 1) == ';';
            if (whole) {
                check.due("cut at " + n, got >= 0, true);
                continue;
            }
            check.refused("cut at " + n, deck, got, 9);
            String rest = text.substring(0, n);
            int last = Math.max(rest.lastIndexOf(' '), rest.lastIndexOf(';')) + 1;
            boolean wordCut = Character.isLetter(text.charAt(n - 1)) && Character.isLetter(text.charAt(n));
            check.due("cut at " + n + ", FAULT", deck.fault(0), 2);
            check.due("cut at " + n + ", place", deck.fault(1), wordCut ? last : n);
        }
        fault("code   \n  ", 2, 10);
        fault("code a year 1" + " ".repeat(487), 2, 500);
        fault(" ".repeat(496) + "code", 2, 500);
    }

    /** "2 it can't stand there": each kind of TOKEN where each other kind must stand. */
    private static void cannotStandThere() {
        String[] heads = {"", "code ", "code a ", "code a year ", "code a year 1 ", CODE + "mean ", CODE + "mean m ",
            CODE + "mean m holes ", CODE + "mean m holes 1 ", CODE + "mean m holes 1;join ",
            CODE + "mean m holes 1;code b year 1;mean n holes 1;join m ",
            CODE + "mean m holes 1;code b year 1;mean n holes 1;join m n "};
        String[] fit = {"w", "n", "year", "d", ";", "n", "holes", "d", "d;", "n", "n", ";"};
        for (int i = 0; i < heads.length; i++) {
            for (String token : new String[] {";", "1", "year", "holes", "word"}) {
                boolean stands = token.equals(fit[i]) || token.equals("1") && fit[i].startsWith("d")
                    || token.equals(";") && fit[i].endsWith(";") || token.equals("word") && fit[i].equals("n");
                if (!stands) {
                    fault(heads[i] + token + " ;", 2, heads[i].length());
                }
            }
        }
        fault(CODE + "join m m;", 3, 20);
        fault(";", 2, 0);
        fault(CODE + ";", 2, 15);
        fault("code a year 1 1;", 2, 14);
        fault("code a b year 1;", 2, 7);
    }

    /** "3 a NAME of a code that is one of a CODE already, of a mean that is one of a MEAN already (of any CODE)". */
    private static void namesTwice() {
        fault("code a year 1;code a year 2;", 3, 19);
        fault("code a year 1;code b year 2;code c year 3;code a year 4;", 3, 47);
        fault("code a year 1;code b year 2;code c year 3;code c year 4;", 3, 47);
        fault(CODE + "mean m holes 1;mean m holes 2;", 3, 35);
        fault(CODE + "mean m holes 1;code b year 1;mean m holes 2;", 3, 49);
        taken("code a year 1;mean a holes 1;code b year 1;mean b holes 1;", 2);
        StringBuilder twenty = twentyMeansText();
        fault(twenty.substring(0, twenty.lastIndexOf("mean")) + "mean a holes 0 1 2;", 3,
            twenty.lastIndexOf("mean") + 5);
    }

    /** "of join a NAME that is no MEAN told ahead": a CODE's NAME is none, nor one that is told behind it. */
    private static void namesOfJoin() {
        String two = "code a year 1;mean m holes 1;code b year 1;mean n holes 1;";
        fault(two + "join a n;", 3, 63);
        fault(two + "join m b;", 3, 65);
        fault(two + "join x n;", 3, 63);
        fault(two + "join m x;", 3, 65);
        fault(two + "join m p;mean p holes 2;", 3, 65);
        fault(two + "join p n;mean p holes 2;", 3, 63);
        fault("join m n;", 3, 5);
        taken(two + "join m n;mean p holes 2;join p m;", 3);
    }

    /** "4 a NUMBER that can't be; a HOLE told twice in a MEAN (at it)". */
    private static void holeTwice() {
        fault(CODE + "mean m holes 0 0;", 4, 30);
        fault(CODE + "mean m holes 0 1 00;", 4, 32);
        fault(CODE + "mean m holes 12 1 012;", 4, 33);
        fault(CODE + "mean m holes 11 11;", 4, 31);
        fault(CODE + "mean m holes 9 8 9", 4, 32);
        taken(CODE + "mean m holes 0;mean n holes 0 1;mean o holes 1 2;", 3);
    }

    /** "5 a mean ahead of any CODE (at mean)". */
    private static void meanAheadOfAnyCode() {
        fault("mean m holes 1;", 5, 0);
        fault(" \nmean m holes 1;code a year 1;", 5, 2);
        fault("mean", 5, 0);
        fault("mean ?", 5, 0);
        taken("code a year 1;mean m holes 1;", 1);
    }

    /** "a join whose second NAME is of the first one's CODE .. (at the second NAME)". */
    private static void joinsWithinACode() {
        String text = CODE + "mean m holes 1;mean n holes 2;code b year 1;mean o holes 1;";
        int at = text.length();
        fault(text + "join m n;", 5, at + 7);
        fault(text + "join n m;", 5, at + 7);
        fault(text + "join m m;", 5, at + 7);
        fault(text + "join  o  o;", 5, at + 9);
        fault(text + "join m m", 5, at + 7);
        fault(text + "join m m ?", 5, at + 7);
    }

    /** "or whose first one is joined to a MEAN of that CODE already (at the second NAME)". */
    private static void joinedAlready() {
        String text = CODE + "mean m holes 1;mean n holes 2;code b year 1;mean o holes 1;mean p holes 2;"
            + "code c year 1;mean q holes 1;";
        int at = text.length();
        fault(text + "join m o;join m o;", 5, at + 16);
        fault(text + "join m o;join m p;", 5, at + 16);
        fault(text + "join m o;join n o;join m q;join m p;", 5, at + 34);
        HoleDeck deck = taken(text + "join m o;join m q;join n o;join o m;join p m;join q m;", 5);
        check.taken("m to b", deck, deck.joined(0, 1), 2);
        check.taken("m to c", deck, deck.joined(0, 2), 4);
        check.taken("n to b", deck, deck.joined(1, 1), 2);
        check.refused("n to c", deck, deck.joined(1, 2), 6);
        check.taken("o to a", deck, deck.joined(2, 0), 0);
        check.taken("p to a", deck, deck.joined(3, 0), 0);
        check.taken("q to a", deck, deck.joined(4, 0), 0);
    }

    /** "CODES, at most 4"; "6 a 5th CODE (at code)". */
    private static void fourCodes() {
        String four = "code a year 0;code b year 33;code c year 66;code d year 99;";
        HoleDeck deck = taken(four, 0);
        check.taken("four", deck, deck.many(1), 4);
        int[] years = {0, 33, 66, 99};
        for (int code = 0; code < 4; code++) {
            check.taken("numbered as they stand", deck, deck.code(code, 0), years[code]);
        }
        check.refused("no CODE 4", deck, deck.code(4, 0), 1);
        fault(four + "code e year 1;", 6, four.length());
        fault(four + " code", 6, four.length() + 1);
        fault(four + "code a year 1;", 6, four.length());
        fault(four + "mean m holes 1;code", 6, four.length() + 15);
        deck = taken(four + "mean m holes 1;", 1);
        check.taken("a MEAN of the 4th", deck, deck.mean(0, 0), 3);
    }

    private static StringBuilder twentyMeansText() {
        StringBuilder text = new StringBuilder("code a year 1;");
        for (int i = 0; i < 20; i++) {
            text.append("mean ").append((char) ('a' + i)).append(" holes ").append(i % 10);
            text.append(i < 10 ? ";" : " 12;");
        }
        return text;
    }

    /** "MEANS, at most 20"; "a 21st MEAN (at mean)". */
    private static void twentyMeans() {
        StringBuilder twenty = twentyMeansText();
        HoleDeck deck = taken(twenty.toString(), 20);
        check.taken("twenty", deck, deck.many(2), 20);
        for (int mean = 0; mean < 20; mean++) {
            int want = 1 << mean % 10 | (mean < 10 ? 0 : 2048);
            check.taken("numbered as they stand", deck, deck.mean(mean, 1), want);
        }
        check.refused("no MEAN 20", deck, deck.mean(20, 1), 1);
        fault(twenty + "mean u holes 1 2;", 6, twenty.length());
        fault(twenty + "mean", 6, twenty.length());
        fault(twenty + "mean a holes 1;", 6, twenty.length());
        fault(twenty + "code b year 1;mean u holes 1;", 6, twenty.length() + 14);
        taken(twenty + "code b year 1;", 20);
    }

    /** "a 13th join (at join)". */
    private static void twelveJoins() {
        StringBuilder text = new StringBuilder();
        for (char name = 'a'; name < 'e'; name++) {
            text.append("code ").append(name).append(" year 1;mean ").append(name).append(" holes 1;");
        }
        text.append("mean e holes 2;");
        for (char from = 'a'; from < 'e'; from++) {
            for (char to = 'a'; to < 'e'; to++) {
                if (from != to) {
                    text.append("join ").append(from).append(' ').append(to).append(';');
                }
            }
        }
        HoleDeck deck = taken(text.toString(), 5);
        for (int mean = 0; mean < 4; mean++) {
            for (int code = 0; code < 4; code++) {
                check.taken("MEAN " + mean + " in " + code, deck, deck.joined(mean, code), code);
            }
        }
        fault(text + "join e a;", 6, text.length());
        fault(text + "join", 6, text.length());
        fault(text + "join a a;", 6, text.length());
        fault(text + "mean f holes 3;join", 6, text.length() + 15);
        String eleven = text.substring(0, text.length() - 9);
        taken(eleven + "join e a;", 5);
    }

    /** "7 a MEAN with just the HOLES that another one of its CODE has (at the ; )". */
    private static void likeHoles() {
        fault(CODE + "mean m holes 1;mean n holes 1;", 7, 44);
        fault(CODE + "mean m holes 1;mean n holes 1  ;", 7, 46);
        fault(CODE + "mean m holes 1 11 0;mean n holes 3;mean o holes 0 1 11;", 7, 69);
        taken(CODE + "mean m holes 1;mean n holes 1 2;mean o holes 2;", 3);
        taken(CODE + "mean m holes 1;mean n holes 1 11;mean o holes 1 12;mean p holes 1 11 12;", 4);
        taken(CODE + "mean m holes 1;code b year 60;mean n holes 1;", 2);
        fault(CODE + "mean m holes 1;code b year 60;mean n holes 1;mean o holes 2 1;mean p holes 1;", 7, 91);
        fault(CODE + "mean m holes 1;mean n holes 1", 2, 44);
        fault(CODE + "mean m holes 1;mean n holes 1 x", 2, 45);
        fault(CODE + "mean m holes 1;mean n holes 1 ?", 1, 45);
    }

    /** "FAULTS, the first along the text": what stands behind it counts for nothing. */
    private static void firstAlongTheText() {
        fault("mean 0007 ?", 5, 0);
        fault("code year ?", 2, 5);
        fault("code a year 100 ?", 4, 12);
        fault("code a year 1;code a ?", 3, 19);
        fault(CODE + "mean m holes 10 ? 1000", 4, 28);
        fault(CODE + "mean m holes 1;mean n holes 1; ?", 7, 44);
        fault(CODE + "? mean", 1, 15);
        fault(CODE + "mean m holes 1;join m m ; ?", 5, 37);
    }

    /** "(of one TOKEN the least kind)". */
    private static void leastKindOfAToken() {
        // 1 ahead of 2 and 4
        fault("code 1000 year 1;", 1, 5);
        fault("code a year 1000;", 1, 12);
        fault(CODE + "mean m holes 1000;", 1, 28);
        // 2 ahead of 3: a NAME that is no NAME
        fault(CODE + "mean m holes 1;join abcdefghi m;", 2, 35);
        // 3 ahead of 5: no MEAN at all, a CODE's NAME
        fault(CODE + "mean m holes 1;join m a;", 3, 37);
        // 3 ahead of 4 along the text
        fault("code a year 1;code a year 100;", 3, 19);
        // 6 at code ahead of 3 at the NAME
        fault("code a year 1;code b year 1;code c year 1;code d year 1;code a year 100;", 6, 56);
    }

    // ---- code() and mean()

    /** code(): "1: its first MEAN (6: it has none)", "(1)". */
    private static void codeCall() {
        twins.span("CODE", Twins::rich, 0, 2, (deck, code) -> deck.code(code, 0));
        twins.span("what of a CODE", Twins::rich, 0, 2, (deck, what) -> deck.code(0, what));
        twins.refused("the first MEAN of none", Twins::rich, deck -> deck.code(2, 1), 6);
        HoleDeck deck = new HoleDeck();
        Twins.rich(deck);
        check.taken("first of CODE 0", deck, deck.code(0, 1), 0);
        check.taken("first of CODE 1", deck, deck.code(1, 1), 2);
        check.taken("two of CODE 0", deck, deck.code(0, 2), 2);
        check.taken("one of CODE 1", deck, deck.code(1, 2), 1);
        check.taken("none of CODE 2", deck, deck.code(2, 2), 0);
        check.refused("1 ahead of 6", deck, deck.code(2, 3), 1);
        check.refused("no CODE 3", deck, deck.code(3, 1), 1);
    }

    /** mean(): what 0 and 1. */
    private static void meanCall() {
        twins.span("MEAN", Twins::rich, 0, 2, (deck, mean) -> deck.mean(mean, 0));
        twins.span("what of a MEAN", Twins::rich, 0, 1, (deck, what) -> deck.mean(0, what));
        HoleDeck deck = new HoleDeck();
        Twins.rich(deck);
        check.taken("CODE of MEAN 1", deck, deck.mean(1, 0), 0);
        check.taken("CODE of MEAN 2", deck, deck.mean(2, 0), 1);
        check.taken("HOLES of MEAN 0", deck, deck.mean(0, 1), 2050);
        check.taken("HOLES of MEAN 2", deck, deck.mean(2, 1), 8);
    }
}
