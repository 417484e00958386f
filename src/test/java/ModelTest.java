import java.lang.reflect.InvocationTargetException;
import java.lang.reflect.Method;
import java.util.Arrays;
import java.util.HashMap;
import java.util.Map;
import java.util.Random;

/**
 * Any calls with any numbers, from fixed seeds, on the class and on the Model: each answer and each STATUS must be
 * alike. No object is asked more than 512 calls.
 */
public final class ModelTest {
    private static final Check check = new Check();
    private static final int CALLS = 512;
    private static final Map<String, Method> OF_CLASS = new HashMap<>();
    private static final Map<String, Method> OF_MODEL = new HashMap<>();
    /** What each call takes, by the kinds of number(). */
    private static final String[] FACE = {"tray TSN", "write TPV", "read TP", "pour TPTPM", "punch TKI", "holes COH",
        "card Cw", "lies L", "exchange CC", "fault 2", "many 4", "code D3", "mean E2", "pass Ob", "ordered TQ",
        "plan TQ", "planned k", "field CF", "sum FR2", "pocket OzF2", "collate F", "matched F3", "run ", "ran 3",
        "fewest OT", "misread 5", "parts F", "parted C", "lost FRX2", "meaning COD", "joined ED", "count EO",
        "meant EOE2", "anew C", "list lp2", "habit K", "mark ", "back ", "top ", "bottom ", "status "};
    private static final String[] WORDS = {"code", "year", "mean", "holes", "join", "pass", "stops", "put", "cut",
        "turn", "add", "loop", "end", "when", ";", ";", ";", "a", "b", "m", "abcdefgh", "abcdefghi", "0", "1", "2",
        "7", "8", "10", "11", "12", "99", "100", "1000", "?", "\n"};

    private final Random random;
    private final HoleDeck house = new HoleDeck();
    private final Model model = new Model();
    private int asked = 0;

    public static void main(String[] args) {
        keepMethods(HoleDeck.class, OF_CLASS);
        keepMethods(Model.class, OF_MODEL);
        for (int seed = 0; seed < 1500; seed++) {
            new ModelTest(seed).ask(seed % 5);
        }
        check.end();
    }

    private static void keepMethods(Class<?> from, Map<String, Method> kept) {
        for (Method method : from.getDeclaredMethods()) {
            if (java.lang.reflect.Modifier.isPublic(method.getModifiers())) {
                kept.put(method.getName(), method);
            }
        }
    }

    private ModelTest(int seed) {
        random = new Random(seed);
    }

    private boolean chance(int by) {
        return random.nextInt(by) == 0;
    }

    /** Of the class and of the model: what both answer, which must be alike, and the STATUS behind it. */
    private long call(String name, Object... args) {
        if (asked + 2 > CALLS) {
            return 0;
        }
        asked += 2;
        Object got = invoke(OF_CLASS.get(name), house, args);
        Object want = invoke(OF_MODEL.get(name), model, args);
        if (!got.equals(want) || house.status() != model.status()) {
            String what = "call " + asked + ": " + name + Arrays.toString(args);
            check.due(what + " " + got + " and " + want, false, true);
            check.due(what + ", STATUS", house.status(), model.status());
            // what comes behind the first wrong one tells nothing more
            asked = CALLS;
        }
        check.due(name, true, true);
        return want instanceof Boolean flag ? flag ? 1 : 0 : ((Number) want).longValue();
    }

    private static Object invoke(Method method, Object on, Object[] args) {
        try {
            return method.invoke(on, args);
        } catch (IllegalAccessException | InvocationTargetException e) {
            throw new IllegalStateException(method + " of " + Arrays.toString(args), e);
        }
    }

    private void ask(int style) {
        int cards = style == 0 ? random.nextInt(4) : style == 1 ? 30 : 2 + random.nextInt(9);
        if (style == 1) {
            punchMany(cards);
        } else if (style == 2) {
            punchTwoDecks(cards);
        } else {
            for (int card = 0; card < cards; card++) {
                punchOne();
            }
        }
        if (!chance(4)) {
            text(true);
            text(false);
        }
        while (asked + 2 <= CALLS) {
            step();
        }
    }

    private void step() {
        switch (random.nextInt(16)) {
            case 0 -> punchOne();
            case 4, 5 -> meanings();
            case 1 -> keyed();
            case 2 -> told();
            case 3 -> text(random.nextBoolean());
            default -> {
                String line = FACE[random.nextInt(FACE.length)];
                int blank = line.indexOf(' ');
                call(line.substring(0, blank), numbers(line.substring(blank + 1)));
            }
        }
    }

    // ---- numbers

    private Object[] numbers(String kinds) {
        String wide = kinds.replace("F", "AB");
        Object[] args = new Object[wide.length()];
        for (int i = 0; i < args.length; i++) {
            char kind = wide.charAt(i);
            if (kind == 'b') {
                args[i] = random.nextBoolean();
            } else if (kind == 'V') {
                args[i] = chance(3) ? random.nextLong() : (long) random.nextInt(5000) - 40;
            } else if (kind == 'B') {
                int a = (Integer) args[i - 1];
                args[i] = edged(Math.min(a + random.nextInt(3) * random.nextInt(4), 7), a, a + 5);
            } else {
                args[i] = number(kind);
            }
        }
        return args;
    }

    private int number(char kind) {
        int cards = Math.max(1, model.cards());
        switch (kind) {
            case 'T':
            case 'S':
                return within(0, 3);
            case 'N':
                return within(0, 60);
            case 'P':
                return within(0, 13);
            case 'M':
                return within(0, 5);
            case 'K':
                return within(0, 1);
            case 'I':
                return within(-1, 1);
            case 'C':
                return within(0, cards - 1);
            case 'L':
                return within(0, cards);
            case 'O':
                return within(0, chance(2) ? 2 : 7);
            case 'A':
                return within(0, chance(2) ? 1 : 7);
            case 'H':
                return chance(3) ? within(0, 4095) : 1 << random.nextInt(10);
            case 'w':
                return within(0, 19);
            case 'D':
                return within(0, Math.max(1, model.codes()) - 1);
            case 'E':
                return within(0, Math.max(1, model.means()) - 1);
            case 'Q':
                return within(1, 4);
            case 'k':
                return within(-1, 3);
            case 'R':
                return within(1, 9);
            case 'z':
                return within(0, 11);
            case 'X':
                return chance(3) ? within(0, 999999999) : random.nextInt(chance(2) ? 10 : 1000);
            case 'l':
                return within(1, 20);
            case 'p':
                return within(0, 20);
            default:
                return within(0, kind - '1');
        }
    }

    private int within(int least, int most) {
        return edged(least + random.nextInt(most - least + 1), least, most);
    }

    /** Now and then a number at the edge, just behind it or far from it. */
    private static final int EDGE = 16;

    private int edged(int number, int least, int most) {
        switch (random.nextInt(8 * EDGE)) {
            case 0:
                return least - 1;
            case 1:
                return most + 1;
            case 2:
                return Integer.MIN_VALUE;
            case 3:
                return Integer.MAX_VALUE;
            case 4:
            case 5:
                return most;
            case 6:
            case 7:
                return least;
            case 8:
                return random.nextInt();
            default:
                return number;
        }
    }

    // ---- cards, keys, tellings

    private int anyHoles() {
        switch (random.nextInt(12)) {
            case 0:
                return 0;
            case 1:
                return random.nextInt(4096);
            case 2:
                return 1 << random.nextInt(12);
            case 3:
                return 1 << random.nextInt(10) | 1024 << random.nextInt(2);
            default:
                return 1 << random.nextInt(chance(3) ? 10 : 3);
        }
    }

    private void punchOne() {
        int tray = random.nextInt(4);
        call("tray", tray, 1 + random.nextInt(3), 8);
        for (int column = 0; column < 8; column++) {
            if (column < 3 || chance(4)) {
                call("write", tray, column, (long) anyHoles());
            }
        }
        call("punch", tray, random.nextInt(2), random.nextInt(3) - 1);
    }

    /** A full deck by few calls. */
    private void punchMany(int cards) {
        call("tray", 0, 1, 8);
        for (int card = 0; card < cards; card++) {
            call("write", 0, random.nextInt(3), (long) anyHoles());
            call("punch", 0, random.nextInt(2), random.nextInt(3) - 1);
        }
    }

    /** Two decks whose serials in columns 0 and 1 rise, shuffled into one; the ink is mostly that of the deck. */
    private void punchTwoDecks(int cards) {
        int[] last = {0, 0};
        call("tray", 0, 1, 8);
        for (int card = 0; card < cards; card++) {
            int side = random.nextInt(2);
            last[side] += 1 + random.nextInt(4);
            int serial = Math.min(99, last[side]);
            call("write", 0, 0, 1L << serial / 10);
            call("write", 0, 1, 1L << serial % 10);
            call("punch", 0, random.nextInt(2), chance(3) ? side : -1);
        }
        call("parts", 0, 1);
        for (int card = 0; card < cards; card++) {
            call("parted", card);
        }
    }

    private void keyed() {
        int tray = random.nextInt(4);
        int many = 1 + random.nextInt(4);
        call("tray", tray, random.nextInt(4), many);
        for (int i = 0; i < many; i++) {
            int column = random.nextInt(chance(3) ? 8 : 3);
            call("write", tray, i, (long) (column + 8 * random.nextInt(chance(2) ? 3 : 1)));
        }
        call("ordered", tray, many);
        long passes = call("plan", tray, many);
        for (int k = -1; k <= passes; k++) {
            call("planned", k);
        }
        if (passes > 0 && chance(2)) {
            for (int k = 0; k < passes; k++) {
                call("pass", model.passOfPlan(k), false);
            }
            call("ordered", tray, many);
        }
    }

    /** What a column tells with none to three misreads. */
    private void told() {
        int column = random.nextInt(chance(3) ? 8 : 3);
        int cards = model.cards();
        long[] tells = new long[13];
        int misreads = random.nextInt(4);
        for (int card = 0; card < cards; card++) {
            int reads = model.readsOf(card, column);
            if (misreads > 0 && chance(Math.max(1, cards / 2))) {
                misreads--;
                int kind = random.nextInt(3);
                reads = kind == 2 ? 12 : kind == 1 ? model.readsOf(card, Math.min(7, column + 1))
                    : reads < 10 ? (reads + 9) % 10 : reads;
            }
            if (reads < 12) {
                tells[reads]++;
                tells[12] += reads < 10 ? reads : 0;
            }
        }
        int tray = random.nextInt(4);
        call("tray", tray, 1 + random.nextInt(3), 13);
        for (int i = 0; i < 13; i++) {
            if (tells[i] != 0) {
                call("write", tray, i, tells[i]);
            }
        }
        call("fewest", column, tray);
        for (int what = 0; what < 5; what++) {
            call("misread", what);
        }
    }

    // ---- texts

    private void text(boolean ofBook) {
        String text = ofBook ? anyBook() : anyRun();
        if (chance(3)) {
            text = spoiled(text);
        }
        int most = ofBook && !chance(9) ? 500 : 300;
        if (text.length() > most) {
            text = text.substring(0, most);
        }
        if (asked + 2 * (text.length() / 20 + 2) > CALLS) {
            asked = CALLS;
            return;
        }
        for (int at = 0; at < text.length(); at += 20) {
            Object[] ints = new Object[5];
            for (int i = 0; i < 5; i++) {
                int four = 0;
                for (int k = 0; k < 4; k++) {
                    int place = at + 4 * i + k;
                    four = four << 8 | (place < text.length() ? text.charAt(place) & 255 : ' ');
                }
                ints[i] = four;
            }
            call("feed", ints);
        }
        call(chance(30) ? "book" : ofBook ? "book" : "program", edged(text.length(), 0, text.length()));
        call("fault", 0);
        call("fault", 1);
        if (!ofBook) {
            call("run");
            call("ran", 2);
        }
    }

    private String blank() {
        return chance(6) ? chance(2) ? "\n" : "  " : " ";
    }

    /** Mostly one that can be taken: names, holes and joins are told twice seldom. */
    private String anyBook() {
        StringBuilder text = new StringBuilder();
        int[] codeOf = new int[40];
        boolean[][] joined = new boolean[40][41];
        int codes = 0;
        int means = 0;
        int most = random.nextInt(chance(4) ? 40 : 14);
        for (int part = 0; part < most; part++) {
            int kind = random.nextInt(8);
            if (codes == 0 || kind == 0 && (codes < 4 || chance(9))) {
                text.append("code").append(blank()).append((char) ('a' + (chance(9) ? random.nextInt(4) : codes)));
                text.append(blank()).append("year").append(blank()).append(random.nextInt(chance(9) ? 120 : 100));
                codes++;
            } else if (kind < 5 || means == 0) {
                text.append("mean ").append((char) ('a' + (chance(30) ? random.nextInt(20) : means)));
                text.append(" holes").append(anyMeanHoles(means));
                codeOf[means] = codes;
                means++;
            } else {
                int from = random.nextInt(means);
                int to = random.nextInt(means);
                for (int i = 0; i < 20 && (codeOf[from] == codeOf[to] || joined[from][codeOf[to]]); i++) {
                    from = random.nextInt(means);
                    to = random.nextInt(means);
                }
                if (codeOf[from] == codeOf[to] && !chance(20)) {
                    continue;
                }
                joined[from][codeOf[to]] = true;
                text.append("join ").append((char) ('a' + from)).append(blank());
                text.append((char) ('a' + (chance(30) ? means : to)));
            }
            text.append(';');
        }
        return text.toString();
    }

    private String anyMeanHoles(int mean) {
        if (chance(20)) {
            return " " + random.nextInt(20) + " " + random.nextInt(13);
        }
        return " " + mean % 10 + (mean < 10 && chance(3) ? " 12" : mean < 10 ? "" : " 11");
    }

    /** Cards that mean something, and what can be asked of it. */
    private void meanings() {
        if (model.means() == 0 || model.cards() == 0) {
            text(true);
            return;
        }
        int column = random.nextInt(8);
        for (int i = 0; i < 3; i++) {
            call("holes", random.nextInt(model.cards()), column, model.holesOfMean(random.nextInt(model.means())));
        }
        for (int i = 0; i < 4; i++) {
            int b = random.nextInt(model.means());
            int a = random.nextInt(model.means());
            call("meaning", random.nextInt(model.cards()), column, random.nextInt(model.codes()));
            call("joined", a, random.nextInt(model.codes()));
            call("count", b, column);
            int to = (int) call("joined", a, model.codeOfMean(b));
            call("meant", chance(2) || to < 0 ? b : to, column, a, random.nextInt(2));
        }
    }

    private String anyRun() {
        StringBuilder text = new StringBuilder();
        int depth = 0;
        int most = random.nextInt(chance(5) ? 50 : 12);
        for (int i = 0; i < most; i++) {
            switch (random.nextInt(9)) {
                case 0 -> text.append("pass ").append(random.nextInt(chance(20) ? 9 : 8)).append(chance(2) ? " stops" : "");
                case 1 -> text.append("put ").append(random.nextInt(3)).append(blank()).append(random.nextInt(12));
                case 2 -> text.append("cut ").append(random.nextInt(chance(3) ? 110 : 9));
                case 3 -> text.append("turn");
                case 4 -> text.append("add ").append(random.nextInt(3)).append(blank()).append(2 + random.nextInt(4));
                case 5, 6 -> {
                    boolean loop = random.nextBoolean();
                    text.append(loop ? "loop " : "when 0 ").append(loop ? 1 + random.nextInt(9) : random.nextInt(5));
                    depth++;
                }
                default -> {
                    text.append(depth > 0 ? "end" : "turn");
                    depth -= depth > 0 ? 1 : 0;
                }
            }
            text.append(chance(9) ? blank() : "").append(';');
            if (depth == 3 && !chance(20)) {
                text.append("turn;end;");
                depth--;
            }
        }
        for (int i = 0; i < depth && !chance(12); i++) {
            text.append("end;");
        }
        return text.toString();
    }

    /** A token or a sign more, less, or another one. */
    private String spoiled(String text) {
        int at = text.isEmpty() ? 0 : random.nextInt(text.length());
        String odd = chance(4) ? "" + (char) random.nextInt(256) : " " + WORDS[random.nextInt(WORDS.length)] + " ";
        switch (random.nextInt(4)) {
            case 0:
                return text.substring(0, at) + odd + text.substring(at);
            case 1:
                return text.substring(0, at);
            case 2:
                return text.substring(0, at) + odd + text.substring(Math.min(text.length(), at + 1 + random.nextInt(5)));
            default:
                return text.substring(0, at) + text.substring(Math.min(text.length(), at + 1));
        }
    }
}
