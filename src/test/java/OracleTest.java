import java.util.ArrayList;
import java.util.Arrays;
import java.util.List;
import java.util.Random;
import java.util.TreeSet;

/**
 * Plans, misreads, parted decks, collating and matching on many small decks, each against a plain search that
 * follows the document word by word. The decks come from a fixed seed.
 */
public final class OracleTest {
    private static final Check check = new Check();
    private static final int BLANK = 10;
    private static final int WRONG = 11;

    /** reads[card][column], ink[card], and the deck as it lies. */
    private final int[][] reads;
    private final int[] inks;
    private final List<Integer> deck = new ArrayList<>();
    private final HoleDeck house = new HoleDeck();

    public static void main(String[] args) {
        Random random = new Random(12);
        for (int round = 0; round < 400; round++) {
            OracleTest oracle = new OracleTest(random, 1 + random.nextInt(7), 2 + random.nextInt(9));
            for (int plan = 0; plan < 4; plan++) {
                oracle.testPlan(random);
            }
            oracle.testFewest(random);
            oracle.testParts(random);
            oracle.testMatched(random);
            oracle.testCollate(random);
            oracle.testPass(random);
        }
        check.end();
    }

    private OracleTest(Random random, int cards, int digits) {
        reads = new int[cards][8];
        inks = new int[cards];
        for (int card = 0; card < cards; card++) {
            StringBuilder text = new StringBuilder();
            for (int column = 0; column < 8; column++) {
                int odd = random.nextInt(16);
                reads[card][column] = odd == 0 ? BLANK : odd == 1 ? WRONG : random.nextInt(Math.min(digits, 10));
                text.append(sign(reads[card][column]));
            }
            inks[card] = random.nextInt(3) - 1;
            Check.punch(house, text.toString(), 0, inks[card]);
            deck.add(card);
        }
        for (int i = 0; i < 3 && cards > 1; i++) {
            int a = random.nextInt(cards);
            int b = (a + 1 + random.nextInt(cards - 1)) % cards;
            house.exchange(a, b);
            java.util.Collections.swap(deck, deck.indexOf(a), deck.indexOf(b));
        }
    }

    private static char sign(int read) {
        return read == BLANK ? ' ' : read == WRONG ? 'x' : (char) ('0' + read);
    }

    private List<Integer> passed(List<Integer> before, int column) {
        List<Integer> after = new ArrayList<>();
        for (int pocket = 0; pocket < 12; pocket++) {
            for (int card : before) {
                if (reads[card][column] == pocket) {
                    after.add(card);
                }
            }
        }
        return after;
    }

    private int hands(int column) {
        TreeSet<Integer> pockets = new TreeSet<>();
        for (int[] card : reads) {
            pockets.add(card[column]);
        }
        return pockets.size();
    }

    private static int item(int read, int how) {
        if (how == 0) {
            return read;
        }
        return read > 9 ? 2 : how == 1 ? read / 5 : read % 2;
    }

    private boolean inOrder(List<Integer> row, int[] key) {
        for (int i = 1; i < row.size(); i++) {
            int[] mine = new int[key.length];
            int[] its = new int[key.length];
            for (int k = 0; k < key.length; k++) {
                mine[k] = item(reads[row.get(i)][key[k] % 8], key[k] / 8);
                its[k] = item(reads[row.get(i - 1)][key[k] % 8], key[k] / 8);
            }
            if (Arrays.compare(mine, its) < 0) {
                return false;
            }
        }
        return true;
    }

    /** Up to five passes, with any column of the key any number of times. */
    private int[] bestPlan(int[] key, List<Integer> row, int[] done, int many, int together) {
        if (done.length == many) {
            return inOrder(row, key) ? join(new int[] {together}, done) : null;
        }
        int[] best = null;
        for (int column = 0; column < 8; column++) {
            boolean inKey = false;
            for (int item : key) {
                inKey |= item % 8 == column;
            }
            if (inKey) {
                int[] next = join(done, new int[] {column});
                int[] found = bestPlan(key, passed(row, column), next, many, together + hands(column));
                if (found != null && (best == null || Arrays.compare(found, best) < 0)) {
                    best = found;
                }
            }
        }
        return best;
    }

    private static int[] join(int[] a, int[] b) {
        int[] both = Arrays.copyOf(a, a.length + b.length);
        System.arraycopy(b, 0, both, a.length, b.length);
        return both;
    }

    private void testPlan(Random random) {
        int[] key = new int[1 + random.nextInt(4)];
        house.tray(0, 0, key.length);
        for (int i = 0; i < key.length; i++) {
            key[i] = random.nextInt(random.nextBoolean() ? 8 : 24);
            house.write(0, i, key[i]);
        }
        String what = "deck " + deck + " by " + Arrays.toString(key);
        check.due(what + " ordered", house.ordered(0, key.length), inOrder(deck, key) ? 1 : 0);
        int[] best = null;
        for (int many = 0; many <= 5 && best == null; many++) {
            best = bestPlan(key, deck, new int[0], many, 0);
        }
        int got = house.plan(0, key.length);
        if (best == null) {
            check.refused(what + " plan", house, got, 6);
            return;
        }
        check.taken(what + " plan", house, got, best.length - 1);
        check.due(what + " hands", house.planned(-1), best[0]);
        for (int k = 1; k < best.length; k++) {
            check.due(what + " pass " + k, house.planned(k - 1), best[k]);
        }
    }

    /** What the cards tell with a row of kinds, 3 for none; null if one of them can't be. */
    private long[] tellings(int column, int[] kinds) {
        long[] tells = new long[13];
        for (int card = 0; card < reads.length; card++) {
            int read = reads[card][column];
            if (kinds[card] == 0) {
                if (read > 9) {
                    return null;
                }
                read = read == 0 ? 9 : read - 1;
            } else if (kinds[card] == 1) {
                if (column == 7) {
                    return null;
                }
                read = reads[card][column + 1];
            } else if (kinds[card] == 2) {
                if (deck.get(0) == card) {
                    return null;
                }
                continue;
            }
            tells[read]++;
            tells[12] += read < 10 ? read : 0;
        }
        return tells;
    }

    private void testFewest(Random random) {
        int column = random.nextInt(8);
        int[] kinds = new int[reads.length];
        Arrays.fill(kinds, 3);
        for (int i = 0; i < random.nextInt(4); i++) {
            kinds[random.nextInt(kinds.length)] = random.nextInt(3);
        }
        long[] told = tellings(column, kinds);
        if (told == null) {
            return;
        }
        Check.fill(house, 1, 2, told);
        String what = "column " + column + " told " + Arrays.toString(told);
        int got = house.fewest(column, 1);
        for (int many = 0; many <= 2; many++) {
            List<int[]> sets = new ArrayList<>();
            gather(column, told, new int[0], many, sets);
            if (!sets.isEmpty()) {
                check.taken(what, house, got, many);
                check.due(what + " sets", house.misread(0), sets.size());
                for (int i = 0; i < 2 * many; i++) {
                    check.due(what + " first " + i, house.misread(i + 1), sets.get(0)[i]);
                }
                return;
            }
        }
        check.refused(what, house, got, 6);
    }

    private void gather(int column, long[] told, int[] done, int many, List<int[]> sets) {
        if (done.length == 2 * many) {
            int[] kinds = new int[reads.length];
            Arrays.fill(kinds, 3);
            for (int i = 0; i < done.length; i += 2) {
                kinds[done[i]] = done[i + 1];
            }
            if (Arrays.equals(told, tellings(column, kinds))) {
                sets.add(done);
            }
            return;
        }
        int from = done.length == 0 ? 0 : done[done.length - 2] + 1;
        for (int card = from; card < reads.length; card++) {
            for (int kind = 0; kind < 3; kind++) {
                gather(column, told, join(done, new int[] {card, kind}), many, sets);
            }
        }
    }

    private int number(int card, int a, int b) {
        int number = 0;
        for (int column = a; column <= b; column++) {
            if (reads[card][column] == WRONG) {
                return -1;
            }
            number = 10 * number + reads[card][column] % 10;
        }
        return number;
    }

    private void testParts(Random random) {
        int a = random.nextInt(8);
        int b = Math.min(7, a + random.nextInt(3));
        int cards = reads.length;
        int ways = 0;
        int[] inOne = new int[cards];
        for (int sides = 0; sides < 1 << cards; sides++) {
            if (parts(sides, a, b)) {
                ways++;
                for (int card = 0; card < cards; card++) {
                    inOne[card] += sides >> card & 1;
                }
            }
        }
        check.taken("parts of " + deck, house, house.parts(a, b), ways);
        for (int card = 0; card < cards; card++) {
            if (ways == 0) {
                check.refused("no way", house, house.parted(card), 6);
            } else {
                int want = inOne[card] == 0 ? 0 : inOne[card] == ways ? 1 : 2;
                check.taken("parted", house, house.parted(card), want);
            }
        }
    }

    private boolean parts(int sides, int a, int b) {
        int[] last = {-1, -1};
        for (int card : deck) {
            int side = sides >> card & 1;
            int serial = number(card, a, b);
            if (serial < 0 || inks[card] == 1 - side || serial <= last[side]) {
                return false;
            }
            last[side] = serial;
        }
        return true;
    }

    private void testMatched(Random random) {
        int a = random.nextInt(8);
        List<TreeSet<Integer>> sets = List.of(new TreeSet<>(), new TreeSet<>());
        for (int card = 0; card < reads.length; card++) {
            if (inks[card] >= 0 && number(card, a, a) >= 0) {
                sets.get(inks[card]).add(number(card, a, a));
            }
        }
        TreeSet<Integer> both = new TreeSet<>(sets.get(0));
        both.retainAll(sets.get(1));
        check.taken("both", house, house.matched(a, a, 0), both.size());
        check.taken("ink 0", house, house.matched(a, a, 1), sets.get(0).size() - both.size());
        check.taken("ink 1", house, house.matched(a, a, 2), sets.get(1).size() - both.size());
    }

    private void testCollate(Random random) {
        int a = random.nextInt(8);
        int b = Math.min(7, a + random.nextInt(2));
        List<List<Integer>> heaps = List.of(new ArrayList<>(), new ArrayList<>(), new ArrayList<>());
        for (int card : deck) {
            boolean behind = inks[card] < 0 || number(card, a, b) < 0;
            heaps.get(behind ? 2 : inks[card]).add(card);
        }
        int behind = heaps.get(2).size();
        deck.clear();
        while (!heaps.get(0).isEmpty() && !heaps.get(1).isEmpty()) {
            boolean zero = number(heaps.get(0).get(0), a, b) <= number(heaps.get(1).get(0), a, b);
            deck.add(heaps.get(zero ? 0 : 1).remove(0));
        }
        for (List<Integer> heap : heaps) {
            deck.addAll(heap);
        }
        check.taken("collate", house, house.collate(a, b), behind);
        lies("collate");
    }

    private void testPass(Random random) {
        int column = random.nextInt(8);
        int through = 0;
        while (through < deck.size() && reads[deck.get(through)][column] != BLANK) {
            through++;
        }
        List<Integer> after = passed(deck.subList(0, through), column);
        TreeSet<Integer> pockets = new TreeSet<>();
        for (int card : after) {
            pockets.add(reads[card][column]);
        }
        after.addAll(deck.subList(through, deck.size()));
        int want = pockets.size() + (through < deck.size() ? 1 : 0);
        deck.clear();
        deck.addAll(after);
        check.taken("pass that stops", house, house.pass(column, true), want);
        check.due("minutes", house.many(3), through + 5 * want);
        lies("pass that stops");
        List<Integer> all = passed(deck, column);
        deck.clear();
        deck.addAll(all);
        check.taken("pass", house, house.pass(column, false), hands(column));
        lies("pass");
    }

    private void lies(String what) {
        StringBuilder want = new StringBuilder();
        for (int card : deck) {
            want.append(want.length() == 0 ? "" : " ").append(card);
        }
        check.lies(what, house, want.toString());
    }
}
