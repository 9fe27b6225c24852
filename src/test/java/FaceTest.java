import java.lang.reflect.Constructor;
import java.lang.reflect.Field;
import java.lang.reflect.Method;
import java.lang.reflect.Modifier;
import java.nio.file.Files;
import java.nio.file.Path;
import java.util.ArrayList;
import java.util.Arrays;
import java.util.Collections;
import java.util.IdentityHashMap;
import java.util.List;
import java.util.Set;
import java.util.TreeSet;

/** The face is the document's and no more; the file keeps to those rules of LANGUAGE.md that can be looked at here. */
public final class FaceTest {
    private static final String[] FACE = {
        "feed int int int int int int", "end boolean int", "town int", "law int", "fault int",
        "tenant int int int", "room int int int", "rule int int int int", "roomOf int int int boolean",
        "take int int int", "leave int int", "sublet int int int int", "ends int int", "evict int int",
        "carry int int int int int", "swap int int int", "ticks int int", "neighbours int int int boolean",
        "run int int boolean", "empty int boolean", "wedding int int int", "court int int boolean",
        "cheap int int int int", "fitted int boolean", "given int int", "envies int int",
        "fair int int int int", "ring int int int", "turn int int", "soonest int int int",
        "heard int int int", "roomsFor int int int boolean", "thieves int", "seen int",
        "changed int int int int", "log int int int", "led int int int", "seed int int", "undo boolean",
        "image void", "back boolean", "count int int"};

    private static final String INDEX = "IndexOutOfBoundsException";
    private static final String ARGUMENT = "IllegalArgumentException";
    private static final String STATE = "IllegalStateException";
    private static final String ELEMENT = "NoSuchElementException";
    // What the face says that the calls throw; all others throw nothing.
    private static final String[][] THROWS = {
        {"town", ARGUMENT, "UnsupportedOperationException"}, {"law", ARGUMENT},
        {"tenant", INDEX, ELEMENT}, {"room", INDEX, ELEMENT}, {"rule", INDEX, ELEMENT}, {"roomOf", INDEX},
        {"take", INDEX, STATE}, {"leave", INDEX, STATE}, {"sublet", INDEX, ARGUMENT, STATE}, {"ends", INDEX, STATE},
        {"evict", INDEX, STATE}, {"carry", INDEX, ARGUMENT, STATE}, {"swap", INDEX, ARGUMENT, STATE},
        {"ticks", ARGUMENT}, {"neighbours", INDEX}, {"run", INDEX}, {"wedding", INDEX, ARGUMENT},
        {"cheap", INDEX, ARGUMENT}, {"given", INDEX}, {"envies", INDEX}, {"fair", ARGUMENT},
        {"ring", INDEX, ARGUMENT}, {"turn", INDEX, STATE}, {"soonest", INDEX}, {"heard", INDEX, ARGUMENT},
        {"roomsFor", INDEX, ARGUMENT}, {"thieves", ARGUMENT}, {"seen", ARGUMENT}, {"changed", INDEX, ARGUMENT},
        {"log", ELEMENT}, {"led", INDEX, ARGUMENT}};

    private static int wrong = 0;

    public static void main(String[] args) throws Exception {
        faceIsTheDocuments();
        nothingElseIsSeen();
        sourceKeepsToTheRules();
        oneObjectIsSmall();
        System.out.println(wrong == 0 ? "all as due" : wrong + " not as due");
        if (wrong != 0) {
            System.exit(1);
        }
    }

    private static void expect(boolean holds, String what) {
        if (!holds) {
            wrong++;
            System.out.println(what);
        }
    }

    private static String signature(Method method) {
        StringBuilder text = new StringBuilder(method.getName()).append(' ').append(method.getReturnType());
        for (Class<?> type : method.getParameterTypes()) {
            text.append(' ').append(type);
        }
        return text.toString();
    }

    private static List<String> thrownBy(Method method) {
        List<String> names = new ArrayList<>();
        for (Class<?> type : method.getExceptionTypes()) {
            names.add(type.getSimpleName());
        }
        return names;
    }

    private static List<String> dueBy(String name) {
        for (String[] line : THROWS) {
            if (line[0].equals(name)) {
                return Arrays.asList(line).subList(1, line.length);
            }
        }
        return List.of();
    }

    private static void faceIsTheDocuments() throws Exception {
        TreeSet<String> have = new TreeSet<>();
        for (Method method : HourLets.class.getDeclaredMethods()) {
            if (Modifier.isPublic(method.getModifiers())) {
                have.add(signature(method));
                expect(!Modifier.isStatic(method.getModifiers()), "static: " + method);
                expect(thrownBy(method).equals(dueBy(method.getName())), "throws: " + method);
            }
        }
        TreeSet<String> due = new TreeSet<>(Arrays.asList(FACE));
        expect(have.equals(due), "the face is " + have + ", due is " + due);
        int modifiers = HourLets.class.getModifiers();
        expect(Modifier.isPublic(modifiers) && Modifier.isFinal(modifiers), "the class is public and final");
        expect(HourLets.class.getDeclaredConstructors().length == 1, "one constructor");
        expect(HourLets.class.getConstructor() != null, "a constructor without arguments");
        expect(HourLets.NONE == -1, "NONE is -1");
    }

    private static void nothingElseIsSeen() {
        TreeSet<String> names = new TreeSet<>();
        for (String line : FACE) {
            names.add(line.split(" ")[0]);
        }
        for (Method method : HourLets.class.getDeclaredMethods()) {
            int modifiers = method.getModifiers();
            expect(Modifier.isPublic(modifiers) || Modifier.isPrivate(modifiers), "to be private: " + method);
            expect(Modifier.isPublic(modifiers) || !names.contains(method.getName()), "a face's name: " + method);
        }
        for (Field field : HourLets.class.getDeclaredFields()) {
            boolean isNone = field.getName().equals("NONE");
            expect(isNone || Modifier.isPrivate(field.getModifiers()), "to be private: " + field);
        }
        List<Class<?>> classes = new ArrayList<>();
        classes.add(HourLets.class);
        classes.addAll(Arrays.asList(HourLets.class.getDeclaredClasses()));
        expect(classes.size() <= 12, "classes: " + classes.size());
        for (Class<?> one : classes) {
            looksSmall(one);
        }
    }

    private static void looksSmall(Class<?> one) {
        int fields = 0;
        for (Field field : one.getDeclaredFields()) {
            if (Modifier.isStatic(field.getModifiers())) {
                expect(Modifier.isFinal(field.getModifiers()), "to be final: " + field);
            } else {
                fields++;
            }
        }
        expect(fields <= 20, one + " has fields: " + fields);
        for (Method method : one.getDeclaredMethods()) {
            expect(method.getParameterCount() <= 7, "parameters: " + method);
        }
        for (Constructor<?> made : one.getDeclaredConstructors()) {
            expect(made.getParameterCount() <= 7, "parameters: " + made);
        }
    }

    private static void sourceKeepsToTheRules() throws Exception {
        String source = Files.readString(Path.of("src/main/java/HourLets.java"));
        String[] barred = {"->", "::", "finally", "synchronized", "assert ", "getMessage", "hashCode", "System.out",
            "static {", "Exact(", "try {", "catch (", "package ", "Random", "nanoTime", "instanceof"};
        for (String text : barred) {
            expect(!source.contains(text), "not in the file: " + text);
        }
        for (String line : source.split("\n")) {
            if (line.startsWith("import ")) {
                boolean listed = line.equals("import java.util.Arrays;")
                        || line.equals("import java.util.NoSuchElementException;");
                expect(listed, "not to be imported: " + line);
            }
        }
        rowsAreMadeOnce(source);
        int begin = 0;
        String[] lines = source.split("\n");
        for (int i = 0; i < lines.length; i++) {
            if (lines[i].matches(" {4}(    )?(public|private|boolean|int|void) .*\\{")
                    && !lines[i].contains(" class ")) {
                begin = i;
            }
            if (lines[i].matches(" {4}(    )?\\}")) {
                expect(i - begin < 62, "a long method ends at line " + (i + 1));
                begin = i;
            }
        }
        for (int i = 0; i < source.length(); i++) {
            expect(source.charAt(i) < 128, "a sign above 127 at " + i);
        }
    }

    /** Even a run whose every call makes an object has room for all of them. */
    private static void oneObjectIsSmall() throws IllegalAccessException {
        Set<Object> met = Collections.newSetFromMap(new IdentityHashMap<>());
        int cells = cellsOf(new HourLets(), met);
        expect(met.size() * 512 < 600_000, "objects: " + met.size());
        expect(cells * 512 < 7_300_000, "fields and elements: " + cells);
    }

    private static int cellsOf(Object object, Set<Object> met) throws IllegalAccessException {
        if (object == null || !met.add(object)) {
            return 0;
        }
        if (object instanceof int[] row) {
            return row.length;
        }
        int cells = 0;
        if (object instanceof Object[] row) {
            for (Object one : row) {
                cells += 1 + cellsOf(one, met);
            }
            return cells;
        }
        for (Class<?> kind = object.getClass(); kind != Object.class; kind = kind.getSuperclass()) {
            for (Field field : kind.getDeclaredFields()) {
                if (!Modifier.isStatic(field.getModifiers())) {
                    field.setAccessible(true);
                    cells += 1 + (field.getType().isPrimitive() ? 0 : cellsOf(field.get(object), met));
                }
            }
        }
        return cells;
    }

    /** All calls of a run live in one room, so an object is made with another object alone, or as an exception. */
    private static void rowsAreMadeOnce(String source) {
        for (String line : source.split("\n")) {
            boolean once = line.matches(" +private final .* = new .*;") || line.contains("throw new ")
                    || line.contains("past[i] = new Town();");
            expect(once || !line.matches(".*\\bnew\\b.*[(\\[].*"), "made in a call: " + line.trim());
        }
    }
}
