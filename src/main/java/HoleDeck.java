import java.util.Arrays;

/**
 * A house of cards with holes: trays of numbers, a deck of punched cards, a book of codes, a sorter with its
 * runs, and what can be said of misreads, shuffled decks, lost cards and worn edges. Each call leaves a status.
 */
public final class HoleDeck {
    public static final int NONE = -1;

    private static final int TRAYS = 4;
    private static final int TRAY_MOST = 60;
    private static final int SORTS = 4;
    private static final int CARDS = 30;
    private static final int COLUMNS = 8;
    private static final int ALL_HOLES = 4095;
    private static final int DIGITS = 10;
    private static final int BLANK = 10;
    private static final int WRONG = 11;
    private static final int POCKETS = 12;
    private static final int FIELD_MOST = 6;
    private static final int WHEEL_MOST = 9;
    private static final int KEY_MOST = 4;
    private static final int ITEMS = 24;
    private static final int CODES = 4;
    private static final int MEANS = 20;
    private static final int JOINS = 12;
    private static final int YEAR_MOST = 99;
    private static final int NAME_MOST = 8;
    private static final int TAPE_MOST = 500;
    private static final int FED = 20;
    private static final int RUN_MOST = 300;
    private static final int STEPS = 40;
    private static final int DEPTH = 3;
    private static final int STEPS_DONE_MOST = 200;
    private static final int CUT_MOST = 99;
    private static final int LOOP_MOST = 9;
    private static final int MINUTES_A_HAND = 5;
    private static final int TOLD_NUMBERS = 13;
    private static final int WEAR_MOST = 20;
    private static final int MARKS = 3;

    private static final int CANNOT_BE = 1;
    private static final int TRAY_MISSING = 2;
    private static final int NO_PLACE = 3;
    private static final int TOO_MANY = 4;
    private static final int BAD_NUMBER = 5;
    private static final int NONE_SUCH = 6;
    private static final int UNLIKE = 8;
    private static final int FAULTY = 9;

    private final Tray[] trays = new Tray[TRAYS];
    private final int[] tape = new int[TAPE_MOST];
    private final House house = new House();
    private final House[] marks = new House[MARKS];
    private final BookReader bookReader = new BookReader();
    private final StepReader stepReader = new StepReader();
    private final Machine machine = new Machine();
    private final Planner planner = new Planner();
    private final Misreads misreads = new Misreads();
    private final Parting parting = new Parting();
    private int status = 0;
    private long top = 0;
    private long bottom = 1;
    private int taped = 0;
    private int marked = 0;
    private int faultKind = NONE;
    private int faultPlace = NONE;

    public HoleDeck() {
        for (int i = 0; i < TRAYS; i++) {
            trays[i] = new Tray();
        }
        for (int i = 0; i < MARKS; i++) {
            marks[i] = new House();
        }
    }

    public int status() {
        return status;
    }

    public long top() {
        return top;
    }

    public long bottom() {
        return bottom;
    }

    // ---- TRAYS

    public boolean tray(int tray, int sort, int many) {
        if (!isTray(tray) || sort < 0 || sort >= SORTS || many < 0 || many > TRAY_MOST) {
            return deny(CANNOT_BE);
        }
        trays[tray].makeNew(sort, many);
        return agree();
    }

    public boolean write(int tray, int place, long v) {
        int why = placeStatus(tray, place);
        if (why != 0) {
            return deny(why);
        }
        trays[tray].put(place, v);
        return agree();
    }

    public long read(int tray, int place) {
        int why = placeStatus(tray, place);
        if (why != 0) {
            return refuse(why);
        }
        status = 0;
        return trays[tray].numbers[place];
    }

    public boolean pour(int from, int place, int to, int at, int many) {
        if (!isTray(from) || !isTray(to) || place < 0 || at < 0 || many < 0) {
            return deny(CANNOT_BE);
        }
        Tray source = trays[from];
        Tray goal = trays[to];
        if (source.missing || goal.missing) {
            return deny(TRAY_MISSING);
        }
        if (source.sort != goal.sort) {
            return deny(UNLIKE);
        }
        if (!source.holds(place, many) || !goal.holds(at, many)) {
            return deny(NO_PLACE);
        }
        System.arraycopy(source.numbers, place, goal.numbers, at, many);
        return agree();
    }

    // ---- CARDS, the DECK

    public int punch(int tray, int clerk, int ink) {
        if (!isTray(tray) || clerk < 0 || clerk > 1 || ink < NONE || ink > 1) {
            return refuse(CANNOT_BE);
        }
        int why = rowStatus(tray, COLUMNS);
        if (why != 0) {
            return refuse(why);
        }
        if (!trays[tray].allWithin(COLUMNS, ALL_HOLES)) {
            return refuse(BAD_NUMBER);
        }
        if (house.cards >= CARDS) {
            return refuse(TOO_MANY);
        }
        return answer(house.addCard(trays[tray].numbers, clerk, ink));
    }

    public boolean holes(int card, int column, int holes) {
        if (!house.isCard(card) || !isColumn(column) || holes < 0 || holes > ALL_HOLES) {
            return deny(CANNOT_BE);
        }
        house.setHoles(card, column, holes);
        return agree();
    }

    public int card(int card, int what) {
        if (!house.isCard(card) || what < 0 || what > 2 * COLUMNS + 3) {
            return refuse(CANNOT_BE);
        }
        if (what < COLUMNS) {
            return answer(house.holesOf(card, what));
        }
        if (what < 2 * COLUMNS) {
            return answer(house.reading(card, what - COLUMNS));
        }
        switch (what - 2 * COLUMNS) {
            case 0:
                return answer(house.clerks[card]);
            case 1:
                return house.inks[card] == NONE ? refuse(NONE_SUCH) : answer(house.inks[card]);
            case 2:
                return answer(house.wear[card]);
            default:
                return answer(house.placeOf(card));
        }
    }

    public int lies(int place) {
        if (place < 0) {
            return refuse(CANNOT_BE);
        }
        if (place >= house.cards) {
            return refuse(NONE_SUCH);
        }
        return answer(house.deck[place]);
    }

    public boolean exchange(int a, int b) {
        if (!house.isCard(a) || !house.isCard(b) || a == b) {
            return deny(CANNOT_BE);
        }
        int placeOfA = house.placeOf(a);
        int placeOfB = house.placeOf(b);
        house.deck[placeOfA] = b;
        house.deck[placeOfB] = a;
        return agree();
    }

    // ---- the BOOK

    public int feed(int a, int b, int c, int d, int e) {
        if (taped + FED > TAPE_MOST) {
            return NONE;
        }
        feedInt(a);
        feedInt(b);
        feedInt(c);
        feedInt(d);
        feedInt(e);
        return taped;
    }

    public int book(int n) {
        if (n < 0 || n > taped) {
            return refuse(CANNOT_BE);
        }
        taped = 0;
        boolean sound = bookReader.parse(tape, n);
        keepFault(bookReader.reader);
        if (!sound) {
            return refuse(FAULTY);
        }
        house.book.copyFrom(bookReader.book);
        return answer(house.book.means);
    }

    public int fault(int what) {
        if (what == 0) {
            return faultKind;
        }
        return what == 1 ? faultPlace : NONE;
    }

    public int many(int what) {
        switch (what) {
            case 0:
                return answer(house.cards);
            case 1:
                return answer(house.book.codes);
            case 2:
                return answer(house.book.means);
            case 3:
                return answer(house.minutes);
            default:
                return refuse(CANNOT_BE);
        }
    }

    public int code(int code, int what) {
        Book book = house.book;
        if (!book.isCode(code) || what < 0 || what > 2) {
            return refuse(CANNOT_BE);
        }
        if (what == 0) {
            return answer(book.years[code]);
        }
        if (what == 2) {
            return answer(book.meansOf(code));
        }
        int first = book.firstMeanOf(code);
        return first == NONE ? refuse(NONE_SUCH) : answer(first);
    }

    public int mean(int mean, int what) {
        Book book = house.book;
        if (!book.isMean(mean) || what < 0 || what > 1) {
            return refuse(CANNOT_BE);
        }
        return answer(what == 0 ? book.codeOf[mean] : book.holesOf[mean]);
    }

    // ---- PASSES, PLANS, SUMS

    public int pass(int column, boolean stops) {
        if (!isColumn(column)) {
            return refuse(CANNOT_BE);
        }
        return answer(machine.sendThrough(house, column, stops));
    }

    public int ordered(int tray, int many) {
        int why = keyStatus(tray, many);
        if (why != 0) {
            return refuse(why);
        }
        planner.takeKey(house, trays[tray].numbers, many);
        return answer(planner.inOrder(house.deck, house.cards) ? 1 : 0);
    }

    public int plan(int tray, int many) {
        int why = keyStatus(tray, many);
        if (why != 0) {
            return refuse(why);
        }
        planner.takeKey(house, trays[tray].numbers, many);
        if (!planner.search(house, machine)) {
            return refuse(NONE_SUCH);
        }
        return answer(planner.passes);
    }

    public int planned(int k) {
        if (k < NONE) {
            return refuse(CANNOT_BE);
        }
        if (!planner.told || k >= planner.passes) {
            return refuse(NONE_SUCH);
        }
        return answer(k == NONE ? planner.hands : planner.row[k]);
    }

    public int field(int card, int a, int b) {
        if (!house.isCard(card) || !isField(a, b)) {
            return refuse(CANNOT_BE);
        }
        int number = house.fieldOf(card, a, b);
        return number == NONE ? refuse(NONE_SUCH) : answer(number);
    }

    public int sum(int a, int b, int places, int what) {
        if (!isField(a, b) || !isWheel(places) || what < 0 || what > 1) {
            return refuse(CANNOT_BE);
        }
        int whole = house.wholeSum(a, b);
        int round = tenTo(places);
        return answer(what == 0 ? whole % round : whole / round);
    }

    public int pocket(int column, int reads, int a, int b, int what) {
        boolean fits = isColumn(column) && isReading(reads) && isField(a, b);
        if (!fits || what < 0 || what > 1) {
            return refuse(CANNOT_BE);
        }
        return answer(what == 0 ? house.howManyRead(column, reads) : house.sumWhere(column, reads, a, b));
    }

    public int collate(int a, int b) {
        if (!isField(a, b)) {
            return refuse(CANNOT_BE);
        }
        return answer(machine.collateBy(house, a, b));
    }

    public int matched(int a, int b, int what) {
        if (!isField(a, b) || what < 0 || what > 2) {
            return refuse(CANNOT_BE);
        }
        return answer(house.matchedBy(a, b, what));
    }

    public int program(int n) {
        if (n < 0 || n > taped || n > RUN_MOST) {
            return refuse(CANNOT_BE);
        }
        taped = 0;
        boolean sound = stepReader.parse(tape, n);
        keepFault(stepReader.reader);
        if (!sound) {
            return refuse(FAULTY);
        }
        house.steps.copyFrom(stepReader.steps);
        return answer(house.steps.many);
    }

    public int run() {
        return answer(machine.doSteps(house));
    }

    public long ran(int what) {
        if (what < 0 || what > 2) {
            return refuse(CANNOT_BE);
        }
        if (!machine.told) {
            return refuse(NONE_SUCH);
        }
        status = 0;
        if (what == 0) {
            return machine.register;
        }
        return what == 1 ? machine.hands : machine.someLeft ? 1 : 0;
    }

    // ---- MISREADS

    public int fewest(int column, int tray) {
        if (!isColumn(column) || !isTray(tray)) {
            return refuse(CANNOT_BE);
        }
        int why = rowStatus(tray, TOLD_NUMBERS);
        if (why != 0) {
            return refuse(why);
        }
        if (!misreads.search(house, column, trays[tray].numbers)) {
            return refuse(NONE_SUCH);
        }
        return answer(misreads.least);
    }

    public int misread(int what) {
        if (what < 0 || what > 4) {
            return refuse(CANNOT_BE);
        }
        if (!misreads.told || what > 2 * misreads.least) {
            return refuse(NONE_SUCH);
        }
        return answer(what == 0 ? misreads.sets : misreads.first[what - 1]);
    }

    // ---- PARTED, LOST

    public int parts(int a, int b) {
        if (!isField(a, b)) {
            return refuse(CANNOT_BE);
        }
        return answer(parting.part(house, a, b));
    }

    public int parted(int card) {
        if (!parting.told || parting.ways == 0) {
            return refuse(NONE_SUCH);
        }
        if (card < 0 || card >= parting.cards) {
            return refuse(CANNOT_BE);
        }
        return answer(parting.sides[card]);
    }

    public int lost(int a, int b, int places, int told, int what) {
        boolean fits = isField(a, b) && isWheel(places) && told >= 0 && told < tenTo(places);
        if (!fits || what < 0 || what > 1) {
            return refuse(CANNOT_BE);
        }
        int round = tenTo(places);
        int numbers = tenTo(b - a + 1);
        int least = Math.floorMod(told - house.wholeSum(a, b), round);
        if (least >= numbers) {
            return what == 0 ? answer(0) : refuse(NONE_SUCH);
        }
        return answer(what == 0 ? 1 + (numbers - 1 - least) / round : least);
    }

    // ---- MEANINGS

    public int meaning(int card, int column, int code) {
        if (!house.isCard(card) || !isColumn(column) || !house.book.isCode(code)) {
            return refuse(CANNOT_BE);
        }
        int mean = house.book.meanWith(code, house.holesOf(card, column));
        return mean == NONE ? refuse(NONE_SUCH) : answer(mean);
    }

    public int joined(int mean, int code) {
        if (!house.book.isMean(mean) || !house.book.isCode(code)) {
            return refuse(CANNOT_BE);
        }
        int other = house.book.joinOf(mean, code);
        return other == NONE ? refuse(NONE_SUCH) : answer(other);
    }

    public int count(int mean, int column) {
        if (!house.book.isMean(mean) || !isColumn(column)) {
            return refuse(CANNOT_BE);
        }
        return answer(house.howManyMean(mean, column));
    }

    public int meant(int b, int column, int a, int what) {
        Book book = house.book;
        boolean fits = book.isMean(b) && isColumn(column) && book.isMean(a) && what >= 0 && what <= 1;
        if (!fits || book.codeOf[a] == book.codeOf[b]) {
            return refuse(CANNOT_BE);
        }
        if (book.joinOf(a, book.codeOf[b]) != b) {
            return answer(0);
        }
        boolean alone = book.joinedFrom(book.codeOf[a], b) == 1;
        return answer(alone || what == 1 ? house.howManyMean(b, column) : 0);
    }

    // ---- JAMS, HABITS

    public int anew(int card) {
        if (!house.isCard(card)) {
            return refuse(CANNOT_BE);
        }
        int was = house.wear[card];
        house.wear[card] = 0;
        return answer(was);
    }

    public int list(int limit, int passes, int what) {
        boolean fits = limit >= 1 && limit <= WEAR_MOST && passes >= 0 && passes <= WEAR_MOST;
        if (!fits || what < 0 || what > 1) {
            return refuse(CANNOT_BE);
        }
        if (passes > limit) {
            return refuse(NONE_SUCH);
        }
        int set = house.wornAbove(limit - passes);
        return answer(what == 0 ? Integer.bitCount(set) : set);
    }

    public boolean habit(int clerk) {
        if (clerk < 0 || clerk > 1) {
            return deny(CANNOT_BE);
        }
        int all = house.punchedBy(clerk);
        if (all == 0) {
            return deny(NONE_SUCH);
        }
        tellFraction(house.wrongBy(clerk), all);
        return agree();
    }

    // ---- MARKS

    public int mark() {
        if (marked >= MARKS) {
            return refuse(TOO_MANY);
        }
        marks[marked].copyFrom(house);
        marked++;
        return answer(marked);
    }

    public int back() {
        if (marked <= 0) {
            return refuse(NONE_SUCH);
        }
        marked--;
        house.copyFrom(marks[marked]);
        return answer(marked);
    }

    // ---- what the calls share

    private int refuse(int why) {
        status = why;
        return NONE;
    }

    private boolean deny(int why) {
        status = why;
        return false;
    }

    private int answer(int value) {
        status = 0;
        return value;
    }

    private boolean agree() {
        status = 0;
        return true;
    }

    private int placeStatus(int tray, int place) {
        if (!isTray(tray)) {
            return CANNOT_BE;
        }
        if (trays[tray].missing) {
            return TRAY_MISSING;
        }
        return place >= 0 && place < trays[tray].size ? 0 : NO_PLACE;
    }

    private int rowStatus(int tray, int needed) {
        if (trays[tray].missing) {
            return TRAY_MISSING;
        }
        return trays[tray].size < needed ? NO_PLACE : 0;
    }

    private int keyStatus(int tray, int items) {
        if (!isTray(tray) || items < 1 || items > KEY_MOST) {
            return CANNOT_BE;
        }
        int why = rowStatus(tray, items);
        if (why != 0) {
            return why;
        }
        return trays[tray].allWithin(items, ITEMS - 1) ? 0 : BAD_NUMBER;
    }

    private void feedInt(int four) {
        for (int shift = 24; shift >= 0; shift -= 8) {
            if (taped < TAPE_MOST) {
                tape[taped] = (four >> shift) & 255;
                taped++;
            }
        }
    }

    private void keepFault(Reader reader) {
        faultKind = reader.fault;
        faultPlace = reader.place;
    }

    private void tellFraction(int above, int below) {
        int divisor = commonDivisor(above, below);
        if (divisor > 0) {
            top = above / divisor;
            bottom = below / divisor;
        }
    }

    private static int commonDivisor(int a, int b) {
        for (int divisor = Math.max(a, b); divisor > 1; divisor--) {
            if (a % divisor == 0 && b % divisor == 0) {
                return divisor;
            }
        }
        return 1;
    }

    private static boolean isTray(int tray) {
        return tray >= 0 && tray < TRAYS;
    }

    private static boolean isColumn(int column) {
        return column >= 0 && column < COLUMNS;
    }

    private static boolean isReading(int reads) {
        return reads >= 0 && reads < POCKETS;
    }

    private static boolean isField(int a, int b) {
        return isColumn(a) && isColumn(b) && a <= b && b - a < FIELD_MOST;
    }

    private static boolean isWheel(int places) {
        return places >= 1 && places <= WHEEL_MOST;
    }

    /** At most nine places are asked for, so it stays within an int. */
    private static int tenTo(int places) {
        int power = 1;
        for (int i = 0; i < places && i < WHEEL_MOST; i++) {
            power *= DIGITS;
        }
        return power;
    }

    /** A row of numbers of one sort; its room is made once and used for every row that it becomes. */
    private static final class Tray {
        private boolean missing = true;
        private int sort = 0;
        private int size = 0;
        private final long[] numbers = new long[TRAY_MOST];

        private void makeNew(int newSort, int newSize) {
            missing = false;
            sort = newSort;
            size = newSize;
            Arrays.fill(numbers, 0L);
        }

        private void put(int place, long v) {
            numbers[place] = cut(v);
        }

        private long cut(long v) {
            switch (sort) {
                case 0:
                    return (byte) v;
                case 1:
                    return (short) v;
                case 2:
                    return (int) v;
                default:
                    return v;
            }
        }

        /** Both are 0 or more; the sum is asked as a long, so that it can't wrap. */
        private boolean holds(int place, int many) {
            return (long) place + many <= size;
        }

        private boolean allWithin(int many, int most) {
            for (int i = 0; i < many && i < size; i++) {
                if (numbers[i] < 0 || numbers[i] > most) {
                    return false;
                }
            }
            return true;
        }
    }

    /** All that a MARK keeps: the cards, the deck as it lies, wear, hours, the book and the run. */
    private static final class House {
        private int cards = 0;
        private int minutes = 0;
        private final int[] punched = new int[CARDS * COLUMNS];
        private final int[] readings = new int[CARDS * COLUMNS];
        private final int[] clerks = new int[CARDS];
        private final int[] inks = new int[CARDS];
        private final int[] wear = new int[CARDS];
        private final int[] deck = new int[CARDS];
        private final Book book = new Book();
        private final Steps steps = new Steps();

        private void copyFrom(House other) {
            cards = other.cards;
            minutes = other.minutes;
            System.arraycopy(other.punched, 0, punched, 0, CARDS * COLUMNS);
            System.arraycopy(other.readings, 0, readings, 0, CARDS * COLUMNS);
            System.arraycopy(other.clerks, 0, clerks, 0, CARDS);
            System.arraycopy(other.inks, 0, inks, 0, CARDS);
            System.arraycopy(other.wear, 0, wear, 0, CARDS);
            System.arraycopy(other.deck, 0, deck, 0, CARDS);
            book.copyFrom(other.book);
            steps.copyFrom(other.steps);
        }

        private boolean isCard(int card) {
            return card >= 0 && card < cards;
        }

        /** There is room for it, and the row has eight numbers that can be holes: the call has asked. */
        private int addCard(long[] row, int clerk, int ink) {
            int card = cards;
            cards++;
            for (int column = 0; column < COLUMNS; column++) {
                setHoles(card, column, (int) row[column]);
            }
            clerks[card] = clerk;
            inks[card] = ink;
            wear[card] = 0;
            deck[card] = card;
            return card;
        }

        private void setHoles(int card, int column, int holes) {
            punched[card * COLUMNS + column] = holes;
            readings[card * COLUMNS + column] = readingOf(holes);
        }

        private static int readingOf(int holes) {
            if (holes == 0) {
                return BLANK;
            }
            int digits = holes & ((1 << DIGITS) - 1);
            for (int digit = 0; digit < DIGITS; digit++) {
                if (digits == 1 << digit) {
                    return digit;
                }
            }
            return WRONG;
        }

        private int holesOf(int card, int column) {
            return punched[card * COLUMNS + column];
        }

        private int reading(int card, int column) {
            return readings[card * COLUMNS + column];
        }

        private int placeOf(int card) {
            int place = 0;
            for (int i = 0; i < cards; i++) {
                if (deck[i] == card) {
                    place = i;
                }
            }
            return place;
        }

        private int fieldOf(int card, int a, int b) {
            int number = 0;
            for (int column = a; column <= b; column++) {
                int digit = reading(card, column);
                if (digit == WRONG) {
                    return NONE;
                }
                number = number * DIGITS + (digit == BLANK ? 0 : digit);
            }
            return number;
        }

        private int wholeSum(int a, int b) {
            int whole = 0;
            for (int card = 0; card < cards; card++) {
                whole += Math.max(0, fieldOf(card, a, b));
            }
            return whole;
        }

        private int howManyRead(int column, int reads) {
            int found = 0;
            for (int card = 0; card < cards; card++) {
                if (reading(card, column) == reads) {
                    found++;
                }
            }
            return found;
        }

        private int sumWhere(int column, int reads, int a, int b) {
            int whole = 0;
            for (int card = 0; card < cards; card++) {
                if (reading(card, column) == reads) {
                    whole += Math.max(0, fieldOf(card, a, b));
                }
            }
            return whole;
        }

        private int matchedBy(int a, int b, int what) {
            int ink = what == 2 ? 1 : 0;
            boolean inBoth = what == 0;
            int found = 0;
            for (int card = 0; card < cards; card++) {
                int number = inks[card] == ink ? fieldOf(card, a, b) : NONE;
                // a number that stands in several cards counts at the first of them
                boolean counts = number != NONE && !hasNumber(ink, number, a, b, card);
                if (counts && hasNumber(1 - ink, number, a, b, cards) == inBoth) {
                    found++;
                }
            }
            return found;
        }

        private boolean hasNumber(int ink, int number, int a, int b, int below) {
            for (int card = 0; card < below; card++) {
                if (inks[card] == ink && fieldOf(card, a, b) == number) {
                    return true;
                }
            }
            return false;
        }

        private int howManyMean(int mean, int column) {
            int found = 0;
            for (int card = 0; card < cards; card++) {
                if (holesOf(card, column) == book.holesOf[mean]) {
                    found++;
                }
            }
            return found;
        }

        private int wornAbove(int bound) {
            int set = 0;
            for (int card = 0; card < cards; card++) {
                if (wear[card] > bound) {
                    set |= 1 << card;
                }
            }
            return set;
        }

        private int punchedBy(int clerk) {
            int found = 0;
            for (int card = 0; card < cards; card++) {
                if (clerks[card] == clerk) {
                    found++;
                }
            }
            return found;
        }

        private int wrongBy(int clerk) {
            int found = 0;
            for (int card = 0; card < cards; card++) {
                if (clerks[card] == clerk && hasWrong(card)) {
                    found++;
                }
            }
            return found;
        }

        private boolean hasWrong(int card) {
            for (int column = 0; column < COLUMNS; column++) {
                if (reading(card, column) == WRONG) {
                    return true;
                }
            }
            return false;
        }
    }

    /** A book of codes that was taken; the names are of use while it is read alone. */
    private static final class Book {
        private int codes = 0;
        private int means = 0;
        private final int[] years = new int[CODES];
        private final int[] codeOf = new int[MEANS];
        private final int[] holesOf = new int[MEANS];
        private final int[] joins = new int[MEANS * CODES];

        private void makeEmpty() {
            codes = 0;
            means = 0;
        }

        private void copyFrom(Book other) {
            codes = other.codes;
            means = other.means;
            System.arraycopy(other.years, 0, years, 0, CODES);
            System.arraycopy(other.codeOf, 0, codeOf, 0, MEANS);
            System.arraycopy(other.holesOf, 0, holesOf, 0, MEANS);
            System.arraycopy(other.joins, 0, joins, 0, MEANS * CODES);
        }

        private boolean isCode(int code) {
            return code >= 0 && code < codes;
        }

        private boolean isMean(int mean) {
            return mean >= 0 && mean < means;
        }

        private void addCode(int year) {
            if (codes < CODES) {
                years[codes] = year;
                codes++;
            }
        }

        private void addMean(int holes) {
            if (means < MEANS && codes > 0) {
                codeOf[means] = codes - 1;
                holesOf[means] = holes;
                Arrays.fill(joins, means * CODES, (means + 1) * CODES, NONE);
                // so that JOINED of a mean in its own code is itself
                joins[means * CODES + codes - 1] = means;
                means++;
            }
        }

        private void addJoin(int a, int b) {
            joins[a * CODES + codeOf[b]] = b;
        }

        private int joinOf(int mean, int code) {
            return joins[mean * CODES + code];
        }

        private int joinedFrom(int code, int b) {
            int found = 0;
            for (int mean = 0; mean < means; mean++) {
                if (codeOf[mean] == code && joinOf(mean, codeOf[b]) == b) {
                    found++;
                }
            }
            return found;
        }

        private int meansOf(int code) {
            int found = 0;
            for (int mean = 0; mean < means; mean++) {
                if (codeOf[mean] == code) {
                    found++;
                }
            }
            return found;
        }

        private int firstMeanOf(int code) {
            for (int mean = 0; mean < means; mean++) {
                if (codeOf[mean] == code) {
                    return mean;
                }
            }
            return NONE;
        }

        private int meanWith(int code, int holes) {
            for (int mean = 0; mean < means; mean++) {
                if (codeOf[mean] == code && holesOf[mean] == holes) {
                    return mean;
                }
            }
            return NONE;
        }
    }

    /** A RUN that was taken, as a row of orders: its steps, and the ends of loops and whens. */
    private static final class Steps {
        private static final int PASS = 0;
        private static final int PUT = 1;
        private static final int CUT = 2;
        private static final int TURN = 3;
        private static final int ADD = 4;
        private static final int LOOP = 5;
        private static final int WHEN = 6;
        private static final int END = 7;
        private static final int ORDERS = 2 * STEPS;

        private int many = 0;
        private int orders = 0;
        private final int[] kinds = new int[ORDERS];
        private final int[] firsts = new int[ORDERS];
        private final int[] seconds = new int[ORDERS];
        /** Of a loop or when the order that ends it, of an end the one that it ends. */
        private final int[] mates = new int[ORDERS];

        private void makeEmpty() {
            many = 0;
            orders = 0;
        }

        private void copyFrom(Steps other) {
            many = other.many;
            orders = other.orders;
            System.arraycopy(other.kinds, 0, kinds, 0, ORDERS);
            System.arraycopy(other.firsts, 0, firsts, 0, ORDERS);
            System.arraycopy(other.seconds, 0, seconds, 0, ORDERS);
            System.arraycopy(other.mates, 0, mates, 0, ORDERS);
        }

        private void addStep(int kind, int first, int second) {
            if (orders < ORDERS) {
                kinds[orders] = kind;
                firsts[orders] = first;
                seconds[orders] = second;
                mates[orders] = orders;
                orders++;
                many++;
            }
        }

        private void addEnd(int opener) {
            if (orders < ORDERS) {
                kinds[orders] = END;
                mates[orders] = opener;
                mates[opener] = orders;
                orders++;
            }
        }
    }

    /** Goes along a text token by token, and keeps the first fault that was told of it. */
    private static final class Reader {
        private static final int AT_END = 0;
        private static final int WORD = 1;
        private static final int NUMBER = 2;
        private static final int SIGN = 3;
        private static final int NO_TOKEN = 4;
        private static final int NUMBER_MOST = 3;

        private int[] text = new int[0];
        private int length = 0;
        private int start = 0;
        private int end = 0;
        private int kind = AT_END;
        private int fault = 0;
        private int place = NONE;

        private void begin(int[] newText, int newLength) {
            text = newText;
            length = Math.min(newLength, newText.length);
            end = 0;
            fault = 0;
            place = NONE;
            advance();
        }

        private void advance() {
            start = end;
            while (start < length && (text[start] == ' ' || text[start] == '\n')) {
                start++;
            }
            end = start;
            if (start >= length) {
                kind = AT_END;
            } else if (isLetter(text[start])) {
                kind = WORD;
                while (end < length && isLetter(text[end])) {
                    end++;
                }
            } else if (isDigit(text[start])) {
                while (end < length && isDigit(text[end])) {
                    end++;
                }
                kind = end - start > NUMBER_MOST ? NO_TOKEN : NUMBER;
            } else {
                kind = text[start] == ';' ? SIGN : NO_TOKEN;
                end++;
            }
        }

        private boolean goesOn() {
            return fault == 0 && kind != AT_END;
        }

        private static boolean isLetter(int sign) {
            return sign >= 'a' && sign <= 'z';
        }

        private static boolean isDigit(int sign) {
            return sign >= '0' && sign <= '9';
        }

        private boolean isWord(String word) {
            if (kind != WORD || end - start != word.length()) {
                return false;
            }
            for (int i = 0; i < word.length() && start + i < length; i++) {
                if (text[start + i] != word.charAt(i)) {
                    return false;
                }
            }
            return true;
        }

        /** Eight letters of five bits each fit into a long, so names are compared as numbers. */
        private long nameHere() {
            long name = 0;
            for (int i = start; i < end && i < length; i++) {
                name = name * 32 + (text[i] - 'a' + 1);
            }
            return name;
        }

        private int numberHere() {
            int number = 0;
            for (int i = start; i < end && i < length; i++) {
                number = number * DIGITS + (text[i] - '0');
            }
            return number;
        }

        /** Always false, so that what reads can leave at once. */
        private boolean tell(int newFault) {
            if (fault == 0) {
                fault = newFault;
                place = start;
            }
            return false;
        }

        /** The fault of a token where it is none that can stand there. */
        private int misplaced() {
            return kind == NO_TOKEN ? 1 : 2;
        }

        private boolean nameStands() {
            boolean kept = isWord("code") || isWord("year") || isWord("mean") || isWord("holes") || isWord("join");
            boolean stands = kind == WORD && end - start <= NAME_MOST && !kept;
            return stands || tell(misplaced());
        }

        private boolean numberStands(int least, int most) {
            if (kind != NUMBER) {
                return tell(misplaced());
            }
            int number = numberHere();
            return number >= least && number <= most || tell(4);
        }

        private boolean takeWord(String word) {
            if (!isWord(word)) {
                return tell(misplaced());
            }
            advance();
            return true;
        }

        private boolean takeSign() {
            if (kind != SIGN) {
                return tell(misplaced());
            }
            advance();
            return true;
        }
    }

    /** Reads a BOOK into one of its own, so that the old one stays if there is a fault. */
    private static final class BookReader {
        private final Reader reader = new Reader();
        private final Book book = new Book();
        private final long[] codeNames = new long[CODES];
        private final long[] meanNames = new long[MEANS];
        private int joins = 0;

        private boolean parse(int[] text, int length) {
            reader.begin(text, length);
            book.makeEmpty();
            joins = 0;
            for (int part = 0; part < TAPE_MOST && reader.goesOn(); part++) {
                if (reader.isWord("code")) {
                    readCode();
                } else if (reader.isWord("mean")) {
                    readMean();
                } else if (reader.isWord("join")) {
                    readJoin();
                } else {
                    reader.tell(reader.misplaced());
                }
            }
            return reader.fault == 0;
        }

        private void readCode() {
            if (book.codes >= CODES) {
                reader.tell(6);
                return;
            }
            reader.advance();
            if (!reader.nameStands()) {
                return;
            }
            long name = reader.nameHere();
            if (find(codeNames, book.codes, name) != NONE) {
                reader.tell(3);
                return;
            }
            reader.advance();
            if (!reader.takeWord("year") || !reader.numberStands(0, YEAR_MOST)) {
                return;
            }
            int year = reader.numberHere();
            reader.advance();
            if (!reader.takeSign()) {
                return;
            }
            codeNames[book.codes] = name;
            book.addCode(year);
        }

        private void readMean() {
            if (book.codes == 0) {
                reader.tell(5);
                return;
            }
            if (book.means >= MEANS) {
                reader.tell(6);
                return;
            }
            reader.advance();
            if (!reader.nameStands()) {
                return;
            }
            long name = reader.nameHere();
            if (find(meanNames, book.means, name) != NONE) {
                reader.tell(3);
                return;
            }
            reader.advance();
            if (!reader.takeWord("holes")) {
                return;
            }
            int holes = readHoles();
            if (holes == NONE) {
                return;
            }
            if (reader.kind == Reader.SIGN && book.meanWith(book.codes - 1, holes) != NONE) {
                reader.tell(7);
                return;
            }
            if (!reader.takeSign()) {
                return;
            }
            meanNames[book.means] = name;
            book.addMean(holes);
        }

        /** NONE if there was a fault: a mean has one hole at least. */
        private int readHoles() {
            int holes = 0;
            for (int i = 0; i < POCKETS + 1 && (i == 0 || reader.kind == Reader.NUMBER); i++) {
                if (!reader.numberStands(0, 12)) {
                    return NONE;
                }
                int bit = bitOfHole(reader.numberHere());
                if (bit == 0 || (holes & bit) != 0) {
                    reader.tell(4);
                    return NONE;
                }
                holes |= bit;
                reader.advance();
            }
            return holes;
        }

        private static int bitOfHole(int hole) {
            if (hole == 11) {
                return 1024;
            }
            if (hole == 12) {
                return 2048;
            }
            return hole >= 0 && hole < DIGITS ? 1 << hole : 0;
        }

        private void readJoin() {
            if (joins >= JOINS) {
                reader.tell(6);
                return;
            }
            reader.advance();
            int a = readMeanName();
            if (a == NONE) {
                return;
            }
            reader.advance();
            int b = readMeanName();
            if (b == NONE) {
                return;
            }
            if (book.joinOf(a, book.codeOf[b]) != NONE) {
                reader.tell(5);
                return;
            }
            reader.advance();
            if (!reader.takeSign()) {
                return;
            }
            book.addJoin(a, b);
            joins++;
        }

        private int readMeanName() {
            if (!reader.nameStands()) {
                return NONE;
            }
            int mean = find(meanNames, book.means, reader.nameHere());
            if (mean == NONE) {
                reader.tell(3);
            }
            return mean;
        }

        private static int find(long[] names, int many, long name) {
            for (int i = 0; i < many && i < names.length; i++) {
                if (names[i] == name) {
                    return i;
                }
            }
            return NONE;
        }
    }

    /** Reads a RUN into steps of its own, so that the old one stays if there is a fault. */
    private static final class StepReader {
        private final Reader reader = new Reader();
        private final Steps steps = new Steps();
        private final int[] openers = new int[DEPTH];
        private int depth = 0;
        private int first = 0;
        private int second = 0;

        private boolean parse(int[] text, int length) {
            reader.begin(text, length);
            steps.makeEmpty();
            depth = 0;
            for (int i = 0; i < RUN_MOST && reader.goesOn(); i++) {
                if (reader.isWord("end")) {
                    readEnd();
                } else {
                    readStep();
                }
            }
            if (depth > 0) {
                reader.tell(reader.misplaced());
            }
            return reader.fault == 0;
        }

        private void readEnd() {
            if (depth <= 0) {
                reader.tell(reader.misplaced());
                return;
            }
            reader.advance();
            if (!reader.takeSign()) {
                return;
            }
            depth--;
            steps.addEnd(openers[depth]);
        }

        private void readStep() {
            int kind = kindHere();
            if (kind == NONE) {
                reader.tell(reader.misplaced());
                return;
            }
            boolean opens = kind == Steps.LOOP || kind == Steps.WHEN;
            if (opens && depth >= DEPTH) {
                reader.tell(5);
                return;
            }
            if (steps.many >= STEPS) {
                reader.tell(6);
                return;
            }
            reader.advance();
            first = 0;
            second = 0;
            if (!readNumbers(kind) || !reader.takeSign()) {
                return;
            }
            if (opens) {
                openers[depth] = steps.orders;
                depth++;
            }
            steps.addStep(kind, first, second);
        }

        private int kindHere() {
            if (reader.isWord("pass")) {
                return Steps.PASS;
            }
            if (reader.isWord("put")) {
                return Steps.PUT;
            }
            if (reader.isWord("cut")) {
                return Steps.CUT;
            }
            if (reader.isWord("turn")) {
                return Steps.TURN;
            }
            if (reader.isWord("add")) {
                return Steps.ADD;
            }
            if (reader.isWord("loop")) {
                return Steps.LOOP;
            }
            return reader.isWord("when") ? Steps.WHEN : NONE;
        }

        private boolean readNumbers(int kind) {
            switch (kind) {
                case Steps.PASS:
                    return readFirst(0, COLUMNS - 1) && readStops();
                case Steps.CUT:
                    return readFirst(0, CUT_MOST);
                case Steps.LOOP:
                    return readFirst(1, LOOP_MOST);
                case Steps.ADD:
                    return readFirst(0, COLUMNS - 1) && readSecond(first, Math.min(COLUMNS, first + FIELD_MOST) - 1);
                case Steps.PUT:
                case Steps.WHEN:
                    return readFirst(0, COLUMNS - 1) && readSecond(0, POCKETS - 1);
                default:
                    return true;
            }
        }

        private boolean readFirst(int least, int most) {
            if (!reader.numberStands(least, most)) {
                return false;
            }
            first = reader.numberHere();
            reader.advance();
            return true;
        }

        private boolean readSecond(int least, int most) {
            if (!reader.numberStands(least, most)) {
                return false;
            }
            second = reader.numberHere();
            reader.advance();
            return true;
        }

        /** The word may be left out. */
        private boolean readStops() {
            if (reader.isWord("stops")) {
                second = 1;
                reader.advance();
            }
            return true;
        }
    }

    /** Moves the deck: passes, steps of a run, collating. */
    private static final class Machine {
        /** Far above what a run can need: 200 steps, and nine ends for each of them. */
        private static final int ORDERS_DONE_MOST = 100000;

        private final int[] next = new int[CARDS];
        private final int[] starts = new int[POCKETS + 1];
        private final int[] left = new int[Steps.ORDERS];
        private boolean told = false;
        private long register = 0;
        private int hands = 0;
        private boolean someLeft = false;
        private int done = 0;

        private int sendThrough(House house, int column, boolean stops) {
            int through = stops ? aheadOfBlank(house, column) : house.cards;
            for (int i = 0; i < through; i++) {
                house.wear[house.deck[i]]++;
            }
            int passHands = sortRow(house, house.deck, through, column) + (through < house.cards ? 1 : 0);
            house.minutes += through + MINUTES_A_HAND * passHands;
            return passHands;
        }

        private static int aheadOfBlank(House house, int column) {
            int ahead = 0;
            while (ahead < house.cards && house.reading(house.deck[ahead], column) != BLANK) {
                ahead++;
            }
            return ahead;
        }

        /** The first so many cards of a row come into pockets and out again: how many were not empty. */
        private int sortRow(House house, int[] row, int many, int column) {
            Arrays.fill(starts, 0);
            for (int i = 0; i < many; i++) {
                starts[house.reading(row[i], column) + 1]++;
            }
            int filled = 0;
            for (int pocket = 0; pocket < POCKETS; pocket++) {
                if (starts[pocket + 1] > 0) {
                    filled++;
                }
                starts[pocket + 1] += starts[pocket];
            }
            for (int i = 0; i < many; i++) {
                int pocket = house.reading(row[i], column);
                next[starts[pocket]] = row[i];
                starts[pocket]++;
            }
            System.arraycopy(next, 0, row, 0, many);
            return filled;
        }

        private void putBehind(House house, int column, int reads) {
            int at = 0;
            for (int round = 0; round < 2; round++) {
                for (int i = 0; i < house.cards; i++) {
                    boolean goesBehind = house.reading(house.deck[i], column) == reads;
                    if (goesBehind == (round == 1)) {
                        next[at] = house.deck[i];
                        at++;
                    }
                }
            }
            System.arraycopy(next, 0, house.deck, 0, house.cards);
        }

        private void cutDeck(House house, int many) {
            if (many > 0 && many < house.cards) {
                System.arraycopy(house.deck, many, next, 0, house.cards - many);
                System.arraycopy(house.deck, 0, next, house.cards - many, many);
                System.arraycopy(next, 0, house.deck, 0, house.cards);
            }
        }

        private void turnDeck(House house) {
            for (int i = 0; i < house.cards; i++) {
                next[i] = house.deck[house.cards - 1 - i];
            }
            System.arraycopy(next, 0, house.deck, 0, house.cards);
        }

        private int collateBy(House house, int a, int b) {
            int at = 0;
            int zero = nextInInk(house, 0, 0, a, b);
            int one = nextInInk(house, 0, 1, a, b);
            while (at < house.cards && (zero < house.cards || one < house.cards)) {
                if (zeroComesFirst(house, zero, one, a, b)) {
                    next[at] = house.deck[zero];
                    zero = nextInInk(house, zero + 1, 0, a, b);
                } else {
                    next[at] = house.deck[one];
                    one = nextInInk(house, one + 1, 1, a, b);
                }
                at++;
            }
            int behind = house.cards - at;
            for (int i = 0; i < house.cards && at < house.cards; i++) {
                int card = house.deck[i];
                if (house.inks[card] == NONE || house.fieldOf(card, a, b) == NONE) {
                    next[at] = card;
                    at++;
                }
            }
            System.arraycopy(next, 0, house.deck, 0, house.cards);
            return behind;
        }

        /** The place of the next card in that ink with a number, or how many cards there are. */
        private static int nextInInk(House house, int from, int ink, int a, int b) {
            int place = from;
            while (place < house.cards && !collates(house, house.deck[place], ink, a, b)) {
                place++;
            }
            return place;
        }

        private static boolean collates(House house, int card, int ink, int a, int b) {
            return house.inks[card] == ink && house.fieldOf(card, a, b) != NONE;
        }

        /** Not both places are at the end. */
        private static boolean zeroComesFirst(House house, int zero, int one, int a, int b) {
            if (zero >= house.cards || one >= house.cards) {
                return zero < house.cards;
            }
            return house.fieldOf(house.deck[zero], a, b) <= house.fieldOf(house.deck[one], a, b);
        }

        private int doSteps(House house) {
            Steps steps = house.steps;
            told = true;
            register = 0;
            hands = 0;
            someLeft = false;
            done = 0;
            int at = 0;
            for (int i = 0; i < ORDERS_DONE_MOST && at < steps.orders && !someLeft; i++) {
                if (steps.kinds[at] == Steps.END) {
                    at = behindEnd(steps, at);
                } else if (done >= STEPS_DONE_MOST) {
                    someLeft = true;
                } else {
                    done++;
                    at = doStep(house, at);
                }
            }
            return done;
        }

        private int behindEnd(Steps steps, int at) {
            int opener = steps.mates[at];
            if (steps.kinds[opener] == Steps.LOOP) {
                left[opener]--;
                if (left[opener] > 0) {
                    return opener + 1;
                }
            }
            return at + 1;
        }

        /** Where the run goes on. */
        private int doStep(House house, int at) {
            Steps steps = house.steps;
            int first = steps.firsts[at];
            int second = steps.seconds[at];
            switch (steps.kinds[at]) {
                case Steps.PASS:
                    hands += sendThrough(house, first, second == 1);
                    break;
                case Steps.PUT:
                    putBehind(house, first, second);
                    break;
                case Steps.CUT:
                    cutDeck(house, first);
                    break;
                case Steps.TURN:
                    turnDeck(house);
                    break;
                case Steps.ADD:
                    register += house.wholeSum(first, second);
                    break;
                case Steps.LOOP:
                    left[at] = first;
                    break;
                default:
                    return holds(house, first, second) ? at + 1 : steps.mates[at] + 1;
            }
            return at + 1;
        }

        private static boolean holds(House house, int column, int reads) {
            return house.cards > 0 && house.reading(house.deck[0], column) == reads;
        }
    }

    /** Orders by a KEY, and the passes that bring it about. */
    private static final class Planner {
        private final int[] key = new int[KEY_MOST];
        private int items = 0;
        private final int[] ranks = new int[CARDS];
        private final int[] columns = new int[KEY_MOST];
        private int different = 0;
        private final int[] trial = new int[KEY_MOST];
        private final int[] order = new int[CARDS];
        private boolean told = false;
        private int passes = 0;
        private int hands = 0;
        private final int[] row = new int[KEY_MOST];

        /** The items have been asked to be ones; each is less than 16, so that a card's rank holds all of them. */
        private void takeKey(House house, long[] numbers, int many) {
            items = Math.min(many, KEY_MOST);
            for (int i = 0; i < items; i++) {
                key[i] = (int) numbers[i];
            }
            for (int card = 0; card < house.cards; card++) {
                int rank = 0;
                for (int i = 0; i < items; i++) {
                    rank = rank * 16 + taken(house, card, key[i]);
                }
                ranks[card] = rank;
            }
        }

        private boolean inOrder(int[] cards, int many) {
            for (int i = 1; i < many; i++) {
                if (ranks[cards[i]] < ranks[cards[i - 1]]) {
                    return false;
                }
            }
            return true;
        }

        private static int taken(House house, int card, int item) {
            int reads = house.reading(card, item % COLUMNS);
            int how = item / COLUMNS;
            if (how == 0) {
                return reads;
            }
            if (reads >= DIGITS) {
                return 2;
            }
            return how == 1 ? reads / 5 : reads % 2;
        }

        /**
         * A column that is passed a second time makes its first pass idle, so the fewest passes take no column
         * twice, and there are never more of them than columns in the key.
         */
        private boolean search(House house, Machine machine) {
            gatherColumns();
            int rows = 1;
            for (int many = 0; many <= different; many++) {
                if (searchRows(house, machine, many, rows)) {
                    told = true;
                    passes = many;
                    return true;
                }
                rows *= different;
            }
            return false;
        }

        private void gatherColumns() {
            different = 0;
            for (int column = 0; column < COLUMNS; column++) {
                if (inKey(column) && different < KEY_MOST) {
                    columns[different] = column;
                    different++;
                }
            }
        }

        private boolean inKey(int column) {
            for (int i = 0; i < items; i++) {
                if (key[i] % COLUMNS == column) {
                    return true;
                }
            }
            return false;
        }

        /** The rows come in their order by columns, so of like hands the first one stays. */
        private boolean searchRows(House house, Machine machine, int many, int rows) {
            boolean found = false;
            for (int number = 0; number < rows; number++) {
                if (layTrial(number, many)) {
                    int trialHands = tryRow(house, machine, many);
                    if (trialHands != NONE && (!found || trialHands < hands)) {
                        found = true;
                        hands = trialHands;
                        System.arraycopy(trial, 0, row, 0, many);
                    }
                }
            }
            return found;
        }

        /** The digits of the number, taken by how many columns there are, are the row; false with one twice. */
        private boolean layTrial(int number, int many) {
            int rest = number;
            for (int i = many - 1; i >= 0; i--) {
                if (different <= 0) {
                    return false;
                }
                trial[i] = columns[rest % different];
                rest /= different;
                for (int k = i + 1; k < many; k++) {
                    if (trial[k] == trial[i]) {
                        return false;
                    }
                }
            }
            return true;
        }

        /** The hands of the passes together, or NONE if the deck is not in order behind them. */
        private int tryRow(House house, Machine machine, int many) {
            System.arraycopy(house.deck, 0, order, 0, CARDS);
            int together = 0;
            for (int i = 0; i < many; i++) {
                together += machine.sortRow(house, order, house.cards, trial[i]);
            }
            return inOrder(order, house.cards) ? together : NONE;
        }
    }

    /** Looks for the fewest misreads with which a column reads as it was told. */
    private static final class Misreads {
        private static final int KINDS = 3;
        private static final int WORN = 0;
        private static final int OFF = 1;
        private static final int SUM = POCKETS;
        /** What a card reads that goes double: it is neither counted nor summed. */
        private static final int UNSEEN = POCKETS;

        private boolean told = false;
        private int least = 0;
        private int sets = 0;
        private final int[] first = new int[4];
        private final int[] trial = new int[4];
        /** What was told less what is read: all 0 where both are alike. */
        private final long[] gaps = new long[TOLD_NUMBERS];
        private final int[] plain = new int[CARDS];
        private final int[] off = new int[CARDS];
        private int cards = 0;
        private int foremost = NONE;

        private boolean search(House house, int column, long[] tolds) {
            prepare(house, column, tolds);
            for (int many = 0; many <= 2; many++) {
                int found = many == 0 ? (closed() ? 1 : 0) : many == 1 ? searchOne() : searchTwo();
                if (found > 0) {
                    told = true;
                    least = many;
                    sets = found;
                    System.arraycopy(trial, 0, first, 0, first.length);
                    return true;
                }
            }
            return false;
        }

        private void prepare(House house, int column, long[] tolds) {
            cards = house.cards;
            foremost = cards > 0 ? house.deck[0] : NONE;
            System.arraycopy(tolds, 0, gaps, 0, TOLD_NUMBERS);
            for (int card = 0; card < cards; card++) {
                plain[card] = house.reading(card, column);
                off[card] = column + 1 < COLUMNS ? house.reading(card, column + 1) : NONE;
                tally(plain[card], 1);
            }
        }

        private void tally(int reads, int by) {
            if (reads >= 0 && reads < POCKETS) {
                gaps[reads] -= by;
                if (reads < DIGITS) {
                    gaps[SUM] -= (long) by * reads;
                }
            }
        }

        private void change(int from, int to) {
            tally(from, -1);
            tally(to, 1);
        }

        private boolean closed() {
            for (int i = 0; i < TOLD_NUMBERS; i++) {
                if (gaps[i] != 0) {
                    return false;
                }
            }
            return true;
        }

        /** What the card reads so, or NONE if it can't be misread so. */
        private int misreads(int card, int kind) {
            if (kind == WORN) {
                return plain[card] >= DIGITS ? NONE : (plain[card] + DIGITS - 1) % DIGITS;
            }
            if (kind == OFF) {
                return off[card];
            }
            return card == foremost ? NONE : UNSEEN;
        }

        private int searchOne() {
            int found = 0;
            for (int card = 0; card < cards; card++) {
                for (int kind = 0; kind < KINDS; kind++) {
                    int reads = misreads(card, kind);
                    if (reads != NONE) {
                        change(plain[card], reads);
                        if (closed()) {
                            keepFirst(found, 0, card, kind);
                            found++;
                        }
                        change(reads, plain[card]);
                    }
                }
            }
            return found;
        }

        private int searchTwo() {
            int found = 0;
            for (int card = 0; card < cards; card++) {
                for (int kind = 0; kind < KINDS; kind++) {
                    int reads = misreads(card, kind);
                    if (reads != NONE) {
                        change(plain[card], reads);
                        int more = searchBehind(card, found);
                        if (more > 0) {
                            keepFirst(found, 0, card, kind);
                        }
                        found += more;
                        change(reads, plain[card]);
                    }
                }
            }
            return found;
        }

        private int searchBehind(int lesser, int before) {
            int found = 0;
            for (int card = lesser + 1; card < cards; card++) {
                for (int kind = 0; kind < KINDS; kind++) {
                    int reads = misreads(card, kind);
                    if (reads != NONE) {
                        change(plain[card], reads);
                        if (closed()) {
                            keepFirst(before + found, 2, card, kind);
                            found++;
                        }
                        change(reads, plain[card]);
                    }
                }
            }
            return found;
        }

        /** Of all sets the one that is found ahead of any other is kept. */
        private void keepFirst(int found, int at, int card, int kind) {
            if (found == 0) {
                trial[at] = card;
                trial[at + 1] = kind;
            }
        }
    }

    /** Parts a deck that two were shuffled into. Places are counted from 1 here; 0 is ahead of all cards. */
    private static final class Parting {
        private static final int OPEN = 2;

        private boolean told = false;
        private int cards = 0;
        private int ways = 0;
        private final int[] sides = new int[CARDS];
        private final int[] serials = new int[CARDS + 1];
        private final int[] inks = new int[CARDS + 1];
        /** Ways with the latest card in deck 0 (or 1), by the place of the latest one in the other deck. */
        private final int[] inZero = new int[CARDS + 1];
        private final int[] inOne = new int[CARDS + 1];

        private int part(House house, int a, int b) {
            told = true;
            cards = house.cards;
            boolean numbered = takeDeck(house, a, b);
            ways = numbered ? countWays() : 0;
            if (ways > 0) {
                for (int place = 1; place <= cards; place++) {
                    sides[house.deck[place - 1]] = sideOf(place);
                }
            }
            return ways;
        }

        private boolean takeDeck(House house, int a, int b) {
            boolean numbered = true;
            // less than any serial, so that each card may be the first of its deck
            serials[0] = NONE;
            for (int place = 1; place <= cards; place++) {
                int card = house.deck[place - 1];
                serials[place] = house.fieldOf(card, a, b);
                inks[place] = house.inks[card];
                numbered = numbered && serials[place] != NONE;
            }
            return numbered;
        }

        private int sideOf(int place) {
            if (inks[place] != NONE) {
                return inks[place];
            }
            inks[place] = 0;
            int waysInZero = countWays();
            inks[place] = NONE;
            if (waysInZero == 0) {
                return 1;
            }
            return waysInZero == ways ? 0 : OPEN;
        }

        /** At most 2 to the 30, for 30 cards. */
        private int countWays() {
            if (cards == 0) {
                return 1;
            }
            inZero[0] = inks[1] == 1 ? 0 : 1;
            inOne[0] = inks[1] == 0 ? 0 : 1;
            for (int place = 2; place <= cards; place++) {
                addCard(place);
            }
            int all = 0;
            for (int other = 0; other < cards; other++) {
                all += inZero[other] + inOne[other];
            }
            return all;
        }

        private void addCard(int place) {
            boolean mayZero = inks[place] != 1;
            boolean mayOne = inks[place] != 0;
            boolean rises = serials[place] > serials[place - 1];
            int toZero = 0;
            int toOne = 0;
            for (int other = 0; other < place - 1; other++) {
                if (serials[place] > serials[other]) {
                    toOne += mayOne ? inZero[other] : 0;
                    toZero += mayZero ? inOne[other] : 0;
                }
                if (!mayZero || !rises) {
                    inZero[other] = 0;
                }
                if (!mayOne || !rises) {
                    inOne[other] = 0;
                }
            }
            inZero[place - 1] = toZero;
            inOne[place - 1] = toOne;
        }
    }
}
