import java.lang.reflect.Array;
import java.lang.reflect.Constructor;
import java.lang.reflect.Field;
import java.lang.reflect.Method;
import java.lang.reflect.Modifier;
import java.nio.charset.StandardCharsets;
import java.nio.file.Files;
import java.nio.file.Path;
import java.util.ArrayList;
import java.util.IdentityHashMap;
import java.util.List;
import java.util.TreeSet;
import java.util.regex.Matcher;
import java.util.regex.Pattern;

/** The face of the document, those rules of LANGUAGE.md that can be seen from outside, and the room of an object. */
public final class LanguageTest {
    private static final Check check = new Check();
    private static final Path SOURCE = Path.of("src/main/java/HoleDeck.java");
    private static final String[] FACE = {
        "int status()", "long top()", "long bottom()", "boolean tray(int,int,int)", "boolean write(int,int,long)",
        "long read(int,int)", "boolean pour(int,int,int,int,int)", "int punch(int,int,int)",
        "boolean holes(int,int,int)", "int card(int,int)", "int lies(int)", "boolean exchange(int,int)",
        "int feed(int,int,int,int,int)", "int book(int)", "int fault(int)", "int many(int)", "int code(int,int)",
        "int mean(int,int)", "int pass(int,boolean)", "int ordered(int,int)", "int plan(int,int)", "int planned(int)",
        "int field(int,int,int)", "int sum(int,int,int,int)", "int pocket(int,int,int,int,int)",
        "int collate(int,int)", "int matched(int,int,int)", "int program(int)", "int run()", "long ran(int)",
        "int fewest(int,int)", "int misread(int)", "int parts(int,int)", "int parted(int)",
        "int lost(int,int,int,int,int)", "int meaning(int,int,int)", "int joined(int,int)", "int count(int,int)",
        "int meant(int,int,int,int)", "int anew(int)", "int list(int,int,int)", "boolean habit(int)", "int mark()",
        "int back()"};
    private static final String[] BARRED = {"throw", "throws", "try", "catch", "synchronized", "assert", "var",
        "Thread", "Object", "Exception", "System.out", "instanceof String", "hashCode", "toString", "package"};

    public static void main(String[] args) throws Exception {
        face();
        classes();
        source();
        room();
        check.end();
    }

    private static void face() {
        TreeSet<String> want = new TreeSet<>(List.of(FACE));
        TreeSet<String> got = new TreeSet<>();
        for (Method method : HoleDeck.class.getDeclaredMethods()) {
            if (Modifier.isPublic(method.getModifiers())) {
                got.add(signature(method));
            } else {
                yes("private: " + method, Modifier.isPrivate(method.getModifiers()));
            }
        }
        yes("methods of the face: " + got, got.equals(want));
        yes("44 methods", FACE.length == 44);
        yes("final", Modifier.isFinal(HoleDeck.class.getModifiers()));
        yes("public", Modifier.isPublic(HoleDeck.class.getModifiers()));
        Constructor<?>[] constructors = HoleDeck.class.getDeclaredConstructors();
        yes("one constructor", constructors.length == 1 && constructors[0].getParameterCount() == 0);
        for (Field field : HoleDeck.class.getDeclaredFields()) {
            boolean isPublic = Modifier.isPublic(field.getModifiers());
            yes("field " + field, field.getName().equals("NONE") ? isPublic : Modifier.isPrivate(field.getModifiers()));
        }
    }

    private static String signature(Method method) {
        StringBuilder text = new StringBuilder(method.getReturnType().getName());
        text.append(' ').append(method.getName()).append('(');
        for (Class<?> type : method.getParameterTypes()) {
            text.append(text.charAt(text.length() - 1) == '(' ? "" : ",").append(type.getName());
        }
        return text.append(')').toString();
    }

    private static void classes() {
        TreeSet<String> names = new TreeSet<>();
        for (String line : FACE) {
            names.add(line.substring(line.indexOf(' ') + 1, line.indexOf('(')));
        }
        List<Class<?>> all = new ArrayList<>(List.of(HoleDeck.class.getDeclaredClasses()));
        yes("some twelve classes", all.size() < 12);
        all.add(HoleDeck.class);
        for (Class<?> one : all) {
            yes("static: " + one, one == HoleDeck.class || Modifier.isStatic(one.getModifiers()));
            int fields = 0;
            for (Field field : one.getDeclaredFields()) {
                boolean isStatic = Modifier.isStatic(field.getModifiers());
                yes("no static state: " + field, !isStatic || Modifier.isFinal(field.getModifiers()));
                fields += isStatic ? 0 : 1;
            }
            yes("some twenty fields: " + one, fields <= 20);
            for (Method method : one.getDeclaredMethods()) {
                yes("at most seven parameters: " + method, method.getParameterCount() <= 7);
                boolean shared = one != HoleDeck.class || !Modifier.isPublic(method.getModifiers());
                yes("a name of the face: " + method, !shared || !names.contains(method.getName()));
            }
        }
    }

    private static void source() throws Exception {
        String text = Files.readString(SOURCE, StandardCharsets.UTF_8);
        String bare = text.replaceAll("(?s)/\\*.*?\\*/", " ").replaceAll("//[^\n]*", " ").replaceAll("\"[^\"\n]*\"", "\"\"");
        for (String word : BARRED) {
            yes("without " + word, !Pattern.compile("\\b" + Pattern.quote(word) + "\\b").matcher(bare).find());
        }
        yes("without lambdas", !bare.contains("->") && !bare.contains("::"));
        yes("Arrays is all it takes", bare.replace("import java.util.Arrays;", "").indexOf("import") < 0);
        Matcher library = Pattern.compile("\\b(Arrays|Math|Integer|Long|System)\\.(\\w+)").matcher(bare);
        TreeSet<String> used = new TreeSet<>();
        while (library.find()) {
            used.add(library.group());
        }
        used.removeAll(List.of("Arrays.fill", "Math.max", "Math.min", "Math.floorMod", "Integer.bitCount",
            "System.arraycopy"));
        yes("nothing of the library beside these: " + used, used.isEmpty());
        for (int i = 0; i < text.length(); i++) {
            if (text.charAt(i) > 126) {
                yes("plain signs, at " + i, false);
            }
        }
        shortMethods(text);
        madeOnce(bare);
    }

    /** Had each call of an object's 512 its own object beside it, all of them would still fit into the one room. */
    private static void room() throws Exception {
        IdentityHashMap<Object, Object> met = new IdentityHashMap<>();
        List<Object> waiting = new ArrayList<>(List.of(new HoleDeck()));
        long elements = 0;
        while (!waiting.isEmpty()) {
            Object one = waiting.remove(waiting.size() - 1);
            if (met.put(one, one) == null) {
                elements += one.getClass().isArray() ? parts(one, waiting) : fields(one, waiting);
            }
        }
        yes("objects: " + met.size(), met.size() * 512L < 600_000);
        yes("fields and elements: " + elements, elements * 512 < 7_300_000);
    }

    private static int parts(Object array, List<Object> waiting) {
        if (array instanceof Object[] row) {
            waiting.addAll(List.of(row));
        }
        return Array.getLength(array);
    }

    private static int fields(Object one, List<Object> waiting) throws Exception {
        int found = 0;
        for (Field field : one.getClass().getDeclaredFields()) {
            if (!Modifier.isStatic(field.getModifiers())) {
                found++;
                field.setAccessible(true);
                if (!field.getType().isPrimitive()) {
                    waiting.add(field.get(one));
                }
            }
        }
        return found;
    }

    /** Rule 12, kept more narrowly: all rows are made with the object, none by a call. */
    private static void madeOnce(String bare) {
        boolean inConstructor = false;
        for (String line : bare.split("\n")) {
            inConstructor = inConstructor ? !line.equals("    }") : line.startsWith("    public HoleDeck()");
            boolean ofAField = line.matches(" +private (final )?[\\w\\[\\]]+ \\w+ = new .*;");
            yes("made once: " + line, !line.contains("new ") || ofAField || inConstructor);
        }
    }

    private static void shortMethods(String text) {
        String[] lines = text.split("\n");
        int begun = -1;
        String indent = "";
        for (int i = 0; i < lines.length; i++) {
            Matcher head = Pattern.compile("^( +)(private|public) .*\\) \\{$").matcher(lines[i]);
            if (head.find()) {
                begun = i;
                indent = head.group(1);
            } else if (begun >= 0 && lines[i].equals(indent + "}")) {
                yes("sixty lines at most: " + lines[begun], i - begun < 60);
                begun = -1;
            }
        }
    }

    private static void yes(String what, boolean holds) {
        check.due(what, holds, true);
    }
}
