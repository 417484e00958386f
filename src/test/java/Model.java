import java.util.ArrayList;
import java.util.Arrays;
import java.util.HashMap;
import java.util.List;
import java.util.Map;
import java.util.TreeSet;
import java.util.function.IntUnaryOperator;
import java.util.function.LongSupplier;
import java.util.regex.Matcher;
import java.util.regex.Pattern;

/**
 * A second HoleDeck for the tests, written from the document alone and in another way than the class: texts by
 * patterns and descent, plans by trying all rows, misreads by trying all sets, refusals by exceptions.
 */
public final class Model {
    private static final int BLANK = 10;
    private static final int WRONG = 11;

    private static final class Refused extends RuntimeException {
        private static final long serialVersionUID = 1;
        private final int why;

        Refused(int why) {
            super(null, null, false, false);
            this.why = why;
        }
    }

    private static final class Faulty extends RuntimeException {
        private static final long serialVersionUID = 1;
        private final int kind;
        private final int place;

        Faulty(int kind, int place) {
            super(null, null, false, false);
            this.kind = kind;
            this.place = place;
        }
    }

    private record Card(List<Integer> holes, int clerk, int ink, int wear) {
        int reads(int column) {
            int set = holes.get(column);
            if (set == 0) {
                return BLANK;
            }
            return Integer.bitCount(set & 1023) == 1 ? Integer.numberOfTrailingZeros(set & 1023) : WRONG;
        }

        Card worn(int newWear) {
            return new Card(holes, clerk, ink, newWear);
        }

        Card with(int column, int set) {
            List<Integer> other = new ArrayList<>(holes);
            other.set(column, set);
            return new Card(List.copyOf(other), clerk, ink, wear);
        }
    }

    private record Mean(String name, int code, int holes) { }

    private record Code(String name, int year) { }

    private record Join(int from, int to) { }

    private record Book(List<Code> codes, List<Mean> means, List<Join> joins) {
        static Book empty() {
            return new Book(List.of(), List.of(), List.of());
        }
    }

    private record Step(String word, int a, int b, List<Step> within) { }

    /** All that a MARK keeps; its lists are never changed, but others are put in their place. */
    private record House(List<Card> cards, List<Integer> deck, int minutes, Book book, List<Step> run) { }

    private record Token(String text, int place, char sort) { }

    private House house = new House(List.of(), List.of(), 0, Book.empty(), List.of());
    private final List<House> marks = new ArrayList<>();
    private final long[][] trays = new long[4][];
    private final int[] sorts = new int[4];
    private String tape = "";
    private int status = 0;
    private int top = 0;
    private int bottom = 1;
    private Faulty fault = null;
    private int[] plan = null;
    private int planHands = 0;
    private List<int[]> sets = null;
    private int[] sides = null;
    private boolean noWay = false;
    private long[] ran = null;
    private int done = 0;

    // ---- answers

    private static void need(boolean holds, int why) {
        if (!holds) {
            throw new Refused(why);
        }
    }

    private long told(LongSupplier answer) {
        try {
            long value = answer.getAsLong();
            status = 0;
            return value;
        } catch (Refused refused) {
            status = refused.why;
            return -1;
        }
    }

    private boolean asked(Runnable change) {
        return told(() -> {
            change.run();
            return 1;
        }) == 1;
    }

    private static boolean in(long v, long least, long most) {
        return least <= v && v <= most;
    }

    private void needTray(int tray) {
        need(in(tray, 0, 3), 1);
    }

    private void needCard(int card) {
        need(in(card, 0, house.cards.size() - 1), 1);
    }

    private static void needColumn(int column) {
        need(in(column, 0, 7), 1);
    }

    private static void needField(int a, int b) {
        need(isField(a, b), 1);
    }

    private static boolean isField(int a, int b) {
        return in(a, 0, 7) && in(b, a, Math.min(7, a + 5));
    }

    private void needCode(int code) {
        need(in(code, 0, house.book.codes.size() - 1), 1);
    }

    private void needMean(int mean) {
        need(in(mean, 0, house.book.means.size() - 1), 1);
    }

    private static void needWhat(int what, int most) {
        need(in(what, 0, most), 1);
    }

    // ---- what the tests look at without a STATUS

    int cards() {
        return house.cards.size();
    }

    int codes() {
        return house.book.codes.size();
    }

    int means() {
        return house.book.means.size();
    }

    int holesOfMean(int mean) {
        return house.book.means.get(mean).holes;
    }

    int codeOfMean(int mean) {
        return house.book.means.get(mean).code;
    }

    int readsOf(int card, int column) {
        return house.cards.get(card).reads(column);
    }

    int passOfPlan(int k) {
        return plan[k];
    }

    // ---- the face

    public int status() {
        return status;
    }

    public long top() {
        return top;
    }

    public long bottom() {
        return bottom;
    }

    public boolean tray(int tray, int sort, int many) {
        return asked(() -> {
            needTray(tray);
            need(in(sort, 0, 3) && in(many, 0, 60), 1);
            trays[tray] = new long[many];
            sorts[tray] = sort;
        });
    }

    private void needPlace(int tray, int place) {
        needTray(tray);
        need(trays[tray] != null, 2);
        need(in(place, 0, trays[tray].length - 1), 3);
    }

    public boolean write(int tray, int place, long v) {
        return asked(() -> {
            needPlace(tray, place);
            int cut = 64 - (8 << sorts[tray]);
            trays[tray][place] = v << cut >> cut;
        });
    }

    public long read(int tray, int place) {
        return told(() -> {
            needPlace(tray, place);
            return trays[tray][place];
        });
    }

    public boolean pour(int from, int place, int to, int at, int many) {
        return asked(() -> {
            needTray(from);
            needTray(to);
            need(place >= 0 && at >= 0 && many >= 0, 1);
            need(trays[from] != null && trays[to] != null, 2);
            need(sorts[from] == sorts[to], 8);
            need(0L + place + many <= trays[from].length && 0L + at + many <= trays[to].length, 3);
            long[] poured = Arrays.copyOfRange(trays[from], place, place + many);
            for (int i = 0; i < many; i++) {
                trays[to][at + i] = poured[i];
            }
        });
    }

    public int punch(int tray, int clerk, int ink) {
        return (int) told(() -> {
            needTray(tray);
            need(in(clerk, 0, 1) && in(ink, -1, 1), 1);
            need(trays[tray] != null, 2);
            need(trays[tray].length >= 8, 3);
            List<Integer> holes = new ArrayList<>();
            for (int column = 0; column < 8; column++) {
                need(in(trays[tray][column], 0, 4095), 5);
                holes.add((int) trays[tray][column]);
            }
            need(house.cards.size() < 30, 4);
            List<Card> cards = new ArrayList<>(house.cards);
            List<Integer> deck = new ArrayList<>(house.deck);
            deck.add(cards.size());
            cards.add(new Card(List.copyOf(holes), clerk, ink, 0));
            house = new House(cards, deck, house.minutes, house.book, house.run);
            return cards.size() - 1;
        });
    }

    private void setCard(int card, Card now) {
        List<Card> cards = new ArrayList<>(house.cards);
        cards.set(card, now);
        house = new House(cards, house.deck, house.minutes, house.book, house.run);
    }

    private void setDeck(List<Integer> deck) {
        house = new House(house.cards, deck, house.minutes, house.book, house.run);
    }

    public boolean holes(int card, int column, int holes) {
        return asked(() -> {
            needCard(card);
            needColumn(column);
            need(in(holes, 0, 4095), 1);
            setCard(card, house.cards.get(card).with(column, holes));
        });
    }

    public int card(int card, int what) {
        return (int) told(() -> {
            needCard(card);
            needWhat(what, 19);
            Card one = house.cards.get(card);
            if (what < 8) {
                return one.holes.get(what);
            }
            if (what < 16) {
                return one.reads(what - 8);
            }
            need(what != 17 || one.ink >= 0, 6);
            return what == 16 ? one.clerk : what == 17 ? one.ink : what == 18 ? one.wear : house.deck.indexOf(card);
        });
    }

    public int lies(int place) {
        return (int) told(() -> {
            need(place >= 0, 1);
            need(place < house.deck.size(), 6);
            return house.deck.get(place);
        });
    }

    public boolean exchange(int a, int b) {
        return asked(() -> {
            needCard(a);
            needCard(b);
            need(a != b, 1);
            List<Integer> deck = new ArrayList<>();
            for (int card : house.deck) {
                deck.add(card == a ? b : card == b ? a : card);
            }
            setDeck(deck);
        });
    }

    public int feed(int a, int b, int c, int d, int e) {
        if (tape.length() + 20 > 500) {
            return -1;
        }
        for (int four : new int[] {a, b, c, d, e}) {
            tape += (char) (four >>> 24) + "" + (char) (four >>> 16 & 255) + (char) (four >>> 8 & 255)
                + (char) (four & 255);
        }
        return tape.length();
    }

    public int book(int n) {
        return (int) told(() -> {
            need(in(n, 0, tape.length()), 1);
            String text = tape.substring(0, n);
            tape = "";
            try {
                Book book = new Texts(text).book();
                house = new House(house.cards, house.deck, house.minutes, book, house.run);
                fault = new Faulty(0, -1);
                return book.means.size();
            } catch (Faulty faulty) {
                fault = faulty;
                throw new Refused(9);
            }
        });
    }

    public int fault(int what) {
        return fault == null || !in(what, 0, 1) ? -1 : what == 0 ? fault.kind : fault.place;
    }

    public int many(int what) {
        return (int) told(() -> {
            needWhat(what, 3);
            return new int[] {house.cards.size(), house.book.codes.size(), house.book.means.size(), house.minutes}[what];
        });
    }

    public int code(int code, int what) {
        return (int) told(() -> {
            needCode(code);
            needWhat(what, 2);
            if (what == 0) {
                return house.book.codes.get(code).year;
            }
            List<Integer> its = new ArrayList<>();
            for (int mean = 0; mean < house.book.means.size(); mean++) {
                if (house.book.means.get(mean).code == code) {
                    its.add(mean);
                }
            }
            need(what == 2 || !its.isEmpty(), 6);
            return what == 2 ? its.size() : its.get(0);
        });
    }

    public int mean(int mean, int what) {
        return (int) told(() -> {
            needMean(mean);
            needWhat(what, 1);
            return what == 0 ? house.book.means.get(mean).code : house.book.means.get(mean).holes;
        });
    }

    // ---- PASSES, PLANS, SUMS

    private List<Integer> sorted(List<Integer> deck, int column) {
        List<Integer> after = new ArrayList<>(deck);
        after.sort((x, y) -> house.cards.get(x).reads(column) - house.cards.get(y).reads(column));
        return after;
    }

    private int pockets(List<Integer> deck, int column) {
        TreeSet<Integer> filled = new TreeSet<>();
        for (int card : deck) {
            filled.add(house.cards.get(card).reads(column));
        }
        return filled.size();
    }

    private int goThrough(int column, boolean stops) {
        int through = house.deck.size();
        for (int place = 0; stops && place < through; place++) {
            if (house.cards.get(house.deck.get(place)).reads(column) == BLANK) {
                through = place;
            }
        }
        List<Integer> going = house.deck.subList(0, through);
        int hands = pockets(going, column) + (through < house.deck.size() ? 1 : 0);
        List<Integer> deck = sorted(going, column);
        deck.addAll(house.deck.subList(through, house.deck.size()));
        List<Card> cards = new ArrayList<>(house.cards);
        for (int card : going) {
            cards.set(card, cards.get(card).worn(cards.get(card).wear + 1));
        }
        house = new House(cards, deck, house.minutes + through + 5 * hands, house.book, house.run);
        return hands;
    }

    public int pass(int column, boolean stops) {
        return (int) told(() -> {
            needColumn(column);
            return goThrough(column, stops);
        });
    }

    private int[] key(int tray, int many) {
        needTray(tray);
        need(in(many, 1, 4), 1);
        need(trays[tray] != null, 2);
        need(trays[tray].length >= many, 3);
        int[] key = new int[many];
        for (int i = 0; i < many; i++) {
            need(in(trays[tray][i], 0, 23), 5);
            key[i] = (int) trays[tray][i];
        }
        return key;
    }

    private static int taken(int reads, int how) {
        return how == 0 ? reads : reads >= BLANK ? 2 : how == 1 ? reads / 5 : reads % 2;
    }

    private boolean inOrder(List<Integer> deck, int[] key) {
        int[] ahead = null;
        for (int card : deck) {
            int[] items = new int[key.length];
            for (int i = 0; i < key.length; i++) {
                items[i] = taken(house.cards.get(card).reads(key[i] & 7), key[i] >> 3);
            }
            if (ahead != null && Arrays.compare(items, ahead) < 0) {
                return false;
            }
            ahead = items;
        }
        return true;
    }

    public int ordered(int tray, int many) {
        return (int) told(() -> inOrder(house.deck, key(tray, many)) ? 1 : 0);
    }

    /** All rows of so many passes, in their order; the best one is kept with its hands ahead of it. */
    private int[] best(int[] key, TreeSet<Integer> columns, List<Integer> deck, int left, int[] done) {
        if (left == 0) {
            return inOrder(deck, key) ? done : null;
        }
        int[] best = null;
        for (int column : columns) {
            int[] more = Arrays.copyOf(done, done.length + 1);
            more[done.length] = column;
            more[0] += pockets(deck, column);
            int[] found = best(key, columns, sorted(deck, column), left - 1, more);
            if (found != null && (best == null || Arrays.compare(found, best) < 0)) {
                best = found;
            }
        }
        return best;
    }

    public int plan(int tray, int many) {
        return (int) told(() -> {
            int[] key = key(tray, many);
            TreeSet<Integer> columns = new TreeSet<>();
            for (int item : key) {
                columns.add(item & 7);
            }
            for (int passes = 0; passes <= 5; passes++) {
                int[] best = best(key, columns, house.deck, passes, new int[] {0});
                if (best != null) {
                    planHands = best[0];
                    plan = Arrays.copyOfRange(best, 1, best.length);
                    return passes;
                }
            }
            throw new Refused(6);
        });
    }

    public int planned(int k) {
        return (int) told(() -> {
            need(k >= -1, 1);
            need(plan != null && k < plan.length, 6);
            return k == -1 ? planHands : plan[k];
        });
    }

    /** Null where the FIELD is none. */
    private Integer number(int card, int a, int b) {
        StringBuilder digits = new StringBuilder();
        for (int column = a; column <= b; column++) {
            int reads = house.cards.get(card).reads(column);
            if (reads == WRONG) {
                return null;
            }
            digits.append(reads == BLANK ? 0 : reads);
        }
        return Integer.valueOf(digits.toString());
    }

    public int field(int card, int a, int b) {
        return (int) told(() -> {
            needCard(card);
            needField(a, b);
            Integer number = number(card, a, b);
            need(number != null, 6);
            return number;
        });
    }

    private long whole(int a, int b) {
        long sum = 0;
        for (int card : house.deck) {
            Integer number = number(card, a, b);
            sum += number == null ? 0 : number;
        }
        return sum;
    }

    private static long ten(int places) {
        return Long.parseLong("1" + "0".repeat(places));
    }

    public int sum(int a, int b, int places, int what) {
        return (int) told(() -> {
            needField(a, b);
            need(in(places, 1, 9), 1);
            needWhat(what, 1);
            return what == 0 ? whole(a, b) % ten(places) : whole(a, b) / ten(places);
        });
    }

    public int pocket(int column, int reads, int a, int b, int what) {
        return (int) told(() -> {
            needColumn(column);
            need(in(reads, 0, 11), 1);
            needField(a, b);
            needWhat(what, 1);
            int answer = 0;
            for (int card : house.deck) {
                if (house.cards.get(card).reads(column) == reads) {
                    Integer number = number(card, a, b);
                    answer += what == 0 ? 1 : number == null ? 0 : number;
                }
            }
            return answer;
        });
    }

    public int collate(int a, int b) {
        return (int) told(() -> {
            needField(a, b);
            List<List<Integer>> heaps = List.of(new ArrayList<>(), new ArrayList<>(), new ArrayList<>());
            for (int card : house.deck) {
                int ink = house.cards.get(card).ink;
                heaps.get(ink < 0 || number(card, a, b) == null ? 2 : ink).add(card);
            }
            int behind = heaps.get(2).size();
            List<Integer> deck = new ArrayList<>();
            while (!heaps.get(0).isEmpty() && !heaps.get(1).isEmpty()) {
                boolean zero = number(heaps.get(0).get(0), a, b) <= number(heaps.get(1).get(0), a, b);
                deck.add(heaps.get(zero ? 0 : 1).remove(0));
            }
            heaps.forEach(deck::addAll);
            setDeck(deck);
            return behind;
        });
    }

    public int matched(int a, int b, int what) {
        return (int) told(() -> {
            needField(a, b);
            needWhat(what, 2);
            List<TreeSet<Integer>> numbers = List.of(new TreeSet<>(), new TreeSet<>());
            for (int card : house.deck) {
                if (house.cards.get(card).ink >= 0 && number(card, a, b) != null) {
                    numbers.get(house.cards.get(card).ink).add(number(card, a, b));
                }
            }
            TreeSet<Integer> answer = new TreeSet<>(numbers.get(what == 2 ? 1 : 0));
            if (what == 0) {
                answer.retainAll(numbers.get(1));
            } else {
                answer.removeAll(numbers.get(2 - what));
            }
            return answer.size();
        });
    }

    // ---- RUNS

    public int program(int n) {
        return (int) told(() -> {
            need(in(n, 0, Math.min(300, tape.length())), 1);
            String text = tape.substring(0, n);
            tape = "";
            try {
                Texts texts = new Texts(text);
                List<Step> run = texts.run();
                house = new House(house.cards, house.deck, house.minutes, house.book, run);
                fault = new Faulty(0, -1);
                return texts.steps;
            } catch (Faulty faulty) {
                fault = faulty;
                throw new Refused(9);
            }
        });
    }

    public int run() {
        return (int) told(() -> {
            ran = new long[3];
            done = 0;
            doAll(house.run);
            return done;
        });
    }

    /** False once it is over. */
    private boolean doAll(List<Step> steps) {
        for (Step step : steps) {
            if (done == 200) {
                ran[2] = 1;
                return false;
            }
            done++;
            if (!doOne(step)) {
                return false;
            }
        }
        return true;
    }

    private boolean doOne(Step step) {
        List<Integer> deck = house.deck;
        switch (step.word) {
            case "pass" -> ran[1] += goThrough(step.a, step.b == 1);
            case "put" -> setDeck(split(deck, place -> house.cards.get(deck.get(place)).reads(step.a) == step.b ? 1 : 0));
            case "cut" -> setDeck(split(deck, place -> place < step.a ? 1 : 0));
            case "turn" -> {
                List<Integer> turned = new ArrayList<>(deck);
                java.util.Collections.reverse(turned);
                setDeck(turned);
            }
            case "add" -> ran[0] += whole(step.a, step.b);
            case "loop" -> {
                for (int i = 0; i < step.a; i++) {
                    if (!doAll(step.within)) {
                        return false;
                    }
                }
            }
            default -> {
                boolean holds = !deck.isEmpty() && house.cards.get(deck.get(0)).reads(step.a) == step.b;
                return !holds || doAll(step.within);
            }
        }
        return true;
    }

    private static List<Integer> split(List<Integer> deck, IntUnaryOperator heapOfPlace) {
        List<Integer> front = new ArrayList<>();
        List<Integer> behind = new ArrayList<>();
        for (int place = 0; place < deck.size(); place++) {
            (heapOfPlace.applyAsInt(place) == 1 ? behind : front).add(deck.get(place));
        }
        front.addAll(behind);
        return front;
    }

    public long ran(int what) {
        return told(() -> {
            needWhat(what, 2);
            need(ran != null, 6);
            return ran[what];
        });
    }

    // ---- MISREADS, PARTED, LOST

    /** What it reads so: 12 for what is not seen, -1 where it can't be. */
    private int misread(int card, int column, int kind) {
        int reads = house.cards.get(card).reads(column);
        return switch (kind) {
            case 0 -> reads >= BLANK ? -1 : Math.floorMod(reads - 1, 10);
            case 1 -> column == 7 ? -1 : house.cards.get(card).reads(column + 1);
            case 2 -> house.deck.get(0) == card ? -1 : 12;
            default -> reads;
        };
    }

    private boolean tells(int column, int[] kinds, long[] tolds) {
        long[] counts = new long[14];
        for (int card = 0; card < kinds.length; card++) {
            int reads = misread(card, column, kinds[card]);
            if (reads < 0) {
                return false;
            }
            if (reads == 12) {
                continue;
            }
            counts[reads]++;
            counts[12] += reads < 10 ? reads : 0;
        }
        return Arrays.equals(counts, 0, 13, tolds, 0, 13);
    }

    private void gather(int column, long[] tolds, int[] kinds, int[] set, int left, List<int[]> found) {
        if (left == 0) {
            if (tells(column, kinds, tolds)) {
                found.add(set);
            }
            return;
        }
        for (int card = set.length == 0 ? 0 : set[set.length - 2] + 1; card < kinds.length; card++) {
            for (int kind = 0; kind < 3; kind++) {
                kinds[card] = kind;
                int[] more = Arrays.copyOf(set, set.length + 2);
                more[set.length] = card;
                more[set.length + 1] = kind;
                gather(column, tolds, kinds, more, left - 1, found);
            }
            kinds[card] = 3;
        }
    }

    public int fewest(int column, int tray) {
        return (int) told(() -> {
            needColumn(column);
            needTray(tray);
            need(trays[tray] != null, 2);
            need(trays[tray].length >= 13, 3);
            int[] kinds = new int[house.cards.size()];
            Arrays.fill(kinds, 3);
            for (int many = 0; many <= 2; many++) {
                List<int[]> found = new ArrayList<>();
                gather(column, trays[tray], kinds, new int[0], many, found);
                if (!found.isEmpty()) {
                    sets = found;
                    return many;
                }
            }
            throw new Refused(6);
        });
    }

    public int misread(int what) {
        return (int) told(() -> {
            needWhat(what, 4);
            need(sets != null && what <= sets.get(0).length, 6);
            return what == 0 ? sets.size() : sets.get(0)[what - 1];
        });
    }

    /** Ways by the latest serials of both decks; with a card forced to a side, or -1 for none forced. */
    private long ways(int a, int b, int forced, int side) {
        Map<List<Integer>, Long> states = new HashMap<>();
        states.put(List.of(-1, -1), 1L);
        for (int card : house.deck) {
            Integer serial = number(card, a, b);
            if (serial == null) {
                return 0;
            }
            Map<List<Integer>, Long> next = new HashMap<>();
            for (Map.Entry<List<Integer>, Long> state : states.entrySet()) {
                int zero = state.getKey().get(0);
                int one = state.getKey().get(1);
                int ink = card == forced ? side : house.cards.get(card).ink;
                if (ink != 1 && serial > zero) {
                    next.merge(List.of(serial, one), state.getValue(), Long::sum);
                }
                if (ink != 0 && serial > one) {
                    next.merge(List.of(zero, serial), state.getValue(), Long::sum);
                }
            }
            states = next;
        }
        long all = 0;
        for (long many : states.values()) {
            all += many;
        }
        return all;
    }

    public int parts(int a, int b) {
        return (int) told(() -> {
            needField(a, b);
            long all = ways(a, b, -1, -1);
            noWay = all == 0;
            sides = new int[house.cards.size()];
            for (int card = 0; card < sides.length; card++) {
                int ink = house.cards.get(card).ink;
                boolean zero = ink != 1 && ways(a, b, card, 0) > 0;
                boolean one = ink != 0 && ways(a, b, card, 1) > 0;
                sides[card] = zero && one ? 2 : one ? 1 : 0;
            }
            return all;
        });
    }

    public int parted(int card) {
        return (int) told(() -> {
            need(sides != null && !noWay, 6);
            need(in(card, 0, sides.length - 1), 1);
            return sides[card];
        });
    }

    public int lost(int a, int b, int places, int told, int what) {
        return (int) told(() -> {
            needField(a, b);
            need(in(places, 1, 9) && in(told, 0, ten(places) - 1), 1);
            needWhat(what, 1);
            long sum = whole(a, b);
            int many = 0;
            int least = -1;
            for (int number = 0; number < ten(b - a + 1); number++) {
                if ((sum + number) % ten(places) == told) {
                    many++;
                    least = least < 0 ? number : least;
                }
            }
            need(what == 0 || many > 0, 6);
            return what == 0 ? many : least;
        });
    }

    // ---- MEANINGS

    private int meaningOf(int card, int column, int code) {
        for (int mean = 0; mean < house.book.means.size(); mean++) {
            Mean one = house.book.means.get(mean);
            if (one.code == code && one.holes == house.cards.get(card).holes.get(column)) {
                return mean;
            }
        }
        return -1;
    }

    public int meaning(int card, int column, int code) {
        return (int) told(() -> {
            needCard(card);
            needColumn(column);
            needCode(code);
            int mean = meaningOf(card, column, code);
            need(mean >= 0, 6);
            return mean;
        });
    }

    private int joinOf(int mean, int code) {
        if (house.book.means.get(mean).code == code) {
            return mean;
        }
        for (Join join : house.book.joins) {
            if (join.from == mean && house.book.means.get(join.to).code == code) {
                return join.to;
            }
        }
        return -1;
    }

    public int joined(int mean, int code) {
        return (int) told(() -> {
            needMean(mean);
            needCode(code);
            int other = joinOf(mean, code);
            need(other >= 0, 6);
            return other;
        });
    }

    private int counted(int mean, int column) {
        int many = 0;
        for (int card : house.deck) {
            many += meaningOf(card, column, house.book.means.get(mean).code) == mean ? 1 : 0;
        }
        return many;
    }

    public int count(int mean, int column) {
        return (int) told(() -> {
            needMean(mean);
            needColumn(column);
            return counted(mean, column);
        });
    }

    public int meant(int b, int column, int a, int what) {
        return (int) told(() -> {
            needMean(b);
            needColumn(column);
            needMean(a);
            needWhat(what, 1);
            int code = house.book.means.get(a).code;
            need(code != house.book.means.get(b).code, 1);
            boolean isJoined = false;
            boolean others = false;
            for (Join join : house.book.joins) {
                if (join.to == b && house.book.means.get(join.from).code == code) {
                    isJoined |= join.from == a;
                    others |= join.from != a;
                }
            }
            return !isJoined || others && what == 0 ? 0 : counted(b, column);
        });
    }

    // ---- JAMS, HABITS, MARKS

    public int anew(int card) {
        return (int) told(() -> {
            needCard(card);
            int was = house.cards.get(card).wear;
            setCard(card, house.cards.get(card).worn(0));
            return was;
        });
    }

    public int list(int limit, int passes, int what) {
        return (int) told(() -> {
            need(in(limit, 1, 20) && in(passes, 0, 20), 1);
            needWhat(what, 1);
            need(passes <= limit, 6);
            int many = 0;
            int set = 0;
            for (int card : house.deck) {
                if (house.cards.get(card).wear + passes > limit) {
                    many++;
                    set += 1 << card;
                }
            }
            return what == 0 ? many : set;
        });
    }

    public boolean habit(int clerk) {
        return asked(() -> {
            need(in(clerk, 0, 1), 1);
            int all = 0;
            int bad = 0;
            for (Card card : house.cards) {
                if (card.clerk == clerk) {
                    all++;
                    boolean wrong = false;
                    for (int column = 0; column < 8; column++) {
                        wrong |= card.reads(column) == WRONG;
                    }
                    bad += wrong ? 1 : 0;
                }
            }
            need(all > 0, 6);
            int divisor = java.math.BigInteger.valueOf(bad).gcd(java.math.BigInteger.valueOf(all)).intValue();
            top = bad / divisor;
            bottom = all / divisor;
        });
    }

    public int mark() {
        return (int) told(() -> {
            need(marks.size() < 3, 4);
            marks.add(house);
            return marks.size();
        });
    }

    public int back() {
        return (int) told(() -> {
            need(!marks.isEmpty(), 6);
            house = marks.remove(marks.size() - 1);
            return marks.size();
        });
    }

    // ---- texts

    /** A text as its tokens, the last of them its end; what can't stand there is thrown at once. */
    private static final class Texts {
        private static final Pattern TOKEN = Pattern.compile("([a-z]+)|([0-9]+)|(;)|([^ \\n])", Pattern.DOTALL);
        private static final List<String> BOOK_WORDS = List.of("code", "year", "mean", "holes", "join");

        private final List<Token> tokens = new ArrayList<>();
        private int at = 0;
        private int steps = 0;

        Texts(String text) {
            Matcher matcher = TOKEN.matcher(text);
            while (matcher.find()) {
                char sort = matcher.group(1) != null ? 'w' : matcher.group(2) != null ? 'n'
                    : matcher.group(3) != null ? ';' : '?';
                boolean tooLong = sort == 'n' && matcher.group().length() > 3;
                tokens.add(new Token(matcher.group(), matcher.start(), tooLong ? '?' : sort));
            }
            tokens.add(new Token("", text.length(), '.'));
        }

        private Token next(char sort) {
            Token token = tokens.get(at);
            if (token.sort == '?') {
                throw new Faulty(1, token.place);
            }
            if (token.sort != sort) {
                throw new Faulty(2, token.place);
            }
            at++;
            return token;
        }

        private Token word(String... words) {
            Token token = next('w');
            if (!List.of(words).contains(token.text)) {
                throw new Faulty(2, token.place);
            }
            return token;
        }

        private boolean sees(char sort) {
            return tokens.get(at).sort == sort;
        }

        private boolean sees(String word) {
            return sees('w') && tokens.get(at).text.equals(word);
        }

        private Token name() {
            Token token = next('w');
            if (token.text.length() > 8 || BOOK_WORDS.contains(token.text)) {
                throw new Faulty(2, token.place);
            }
            return token;
        }

        private int number(int least, int most) {
            Token token = next('n');
            int number = Integer.parseInt(token.text);
            if (number < least || number > most) {
                throw new Faulty(4, token.place);
            }
            return number;
        }

        private static void unless(boolean holds, int kind, Token token) {
            if (!holds) {
                throw new Faulty(kind, token.place);
            }
        }

        Book book() {
            Book book = new Book(new ArrayList<>(), new ArrayList<>(), new ArrayList<>());
            while (!sees('.')) {
                Token head = word("code", "mean", "join");
                switch (head.text) {
                    case "code" -> code(book, head);
                    case "mean" -> mean(book, head);
                    default -> join(book, head);
                }
            }
            return book;
        }

        private void code(Book book, Token head) {
            unless(book.codes.size() < 4, 6, head);
            Token name = name();
            unless(book.codes.stream().noneMatch(code -> code.name.equals(name.text)), 3, name);
            word("year");
            int year = number(0, 99);
            next(';');
            book.codes.add(new Code(name.text, year));
        }

        private static int meanNamed(Book book, String name) {
            for (int mean = 0; mean < book.means.size(); mean++) {
                if (book.means.get(mean).name.equals(name)) {
                    return mean;
                }
            }
            return -1;
        }

        private void mean(Book book, Token head) {
            unless(!book.codes.isEmpty(), 5, head);
            unless(book.means.size() < 20, 6, head);
            Token name = name();
            unless(meanNamed(book, name.text) < 0, 3, name);
            word("holes");
            int code = book.codes.size() - 1;
            int holes = 0;
            do {
                Token token = tokens.get(at);
                int hole = number(0, 12);
                int bit = hole < 10 ? 1 << hole : 1 << hole - 1;
                unless(hole != 10 && (holes & bit) == 0, 4, token);
                holes |= bit;
            } while (sees('n'));
            Token sign = next(';');
            for (Mean other : book.means) {
                unless(other.code != code || other.holes != holes, 7, sign);
            }
            book.means.add(new Mean(name.text, code, holes));
        }

        private void join(Book book, Token head) {
            unless(book.joins.size() < 12, 6, head);
            Token first = name();
            int from = meanNamed(book, first.text);
            unless(from >= 0, 3, first);
            Token second = name();
            int to = meanNamed(book, second.text);
            unless(to >= 0, 3, second);
            int code = book.means.get(to).code;
            unless(book.means.get(from).code != code, 5, second);
            for (Join other : book.joins) {
                unless(other.from != from || book.means.get(other.to).code != code, 5, second);
            }
            next(';');
            book.joins.add(new Join(from, to));
        }

        List<Step> run() {
            List<Step> all = steps(0);
            next('.');
            return all;
        }

        private List<Step> steps(int depth) {
            List<Step> all = new ArrayList<>();
            while (!sees('.') && !sees("end")) {
                all.add(step(depth));
            }
            return all;
        }

        private Step step(int depth) {
            Token head = word("pass", "put", "cut", "turn", "add", "loop", "when");
            boolean opens = head.text.equals("loop") || head.text.equals("when");
            unless(!opens || depth < 3, 5, head);
            unless(steps < 40, 6, head);
            steps++;
            int a = head.text.equals("turn") ? 0 : head.text.equals("cut") ? number(0, 99)
                : head.text.equals("loop") ? number(1, 9) : number(0, 7);
            int b = 0;
            if (head.text.equals("pass") && sees("stops")) {
                word("stops");
                b = 1;
            } else if (head.text.equals("put") || head.text.equals("when")) {
                b = number(0, 11);
            } else if (head.text.equals("add")) {
                Token token = tokens.get(at);
                b = number(0, 999);
                unless(isField(a, b), 4, token);
            }
            next(';');
            List<Step> within = List.of();
            if (opens) {
                within = steps(depth + 1);
                word("end");
                next(';');
            }
            return new Step(head.text, a, b, within);
        }
    }
}
