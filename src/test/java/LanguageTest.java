import java.lang.reflect.Array;
import java.lang.reflect.Constructor;
import java.lang.reflect.Field;
import java.lang.reflect.Method;
import java.lang.reflect.Modifier;
import java.nio.file.Files;
import java.nio.file.Path;
import java.util.ArrayList;
import java.util.Arrays;
import java.util.Collections;
import java.util.IdentityHashMap;
import java.util.List;
import java.util.Set;
import java.util.TreeSet;
import java.util.regex.Matcher;
import java.util.regex.Pattern;

/** The face of the document, and those rules of LANGUAGE.md that can be told from the class and its text. */
public final class LanguageTest {
    private static final Due DUE = new Due();
    private static final String FACE = "at/2 back/1 bits/4 cared/2 comes/2 count/1 function/1 gate/4 graph/2 keep/3 "
        + "least/1 letters/0 net/1 order/1 out/3 output/2 parts/2 places/2 prime/2 primes/1 put/3 remove/1 same/2 "
        + "shape/1 step/2 summed/1 take/3 tear/3 told/3 value/3 weight/1";
    private static final String[] FORBIDDEN = {
        "\\b(throw|throws|try|catch|synchronized|assert|instanceof|volatile|transient|native)\\b", "->", "::",
        "\\bimport (?!java\\.util\\.Arrays;)", "\\bpackage\\b", "Exact\\b", "\\bSystem\\.(?!arraycopy\\b)",
        "\\bstatic\\s*\\{", "\\bstatic (?!final\\b)[\\w\\[\\]]+ \\w+( =|;)", "\\bnew \\w+\\[[^\\]]*\\]\\["
    };

    private static final String CONSTANTS = "BAD -1, MANY -2, FULL -3, MISSING -11, ENDED -12";
    private static final Set<String> LIBRARY = Set.of("Arrays.fill", "Math.min", "Math.max", "Integer.bitCount",
        "Long.bitCount", "System.arraycopy");
    /** The room that all calls of a run share, if each of them makes an object. */
    private static final int MOST_OBJECTS = 600_000 / 512, MOST_ELEMENTS = 7_300_000 / 512;

    private static void constants() throws ReflectiveOperationException {
        StringBuilder constants = new StringBuilder();
        for (Field f : LogicSmith.class.getDeclaredFields()) {
            if (!Modifier.isPrivate(f.getModifiers())) {
                int due = Modifier.PUBLIC | Modifier.STATIC | Modifier.FINAL;
                DUE.is(f + " is a public constant", f.getModifiers(), due);
                DUE.is(f + " is an int", f.getType() == int.class ? 1 : 0, 1);
                constants.append(constants.length() == 0 ? "" : ", ").append(f.getName()).append(' ')
                    .append(f.getInt(null));
            }
        }
        DUE.is("the constants " + constants, constants.toString().equals(CONSTANTS) ? 1 : 0, 1);
    }

    private static void face() {
        Set<String> methods = new TreeSet<>();
        Set<String> names = new TreeSet<>();
        for (Method m : LogicSmith.class.getDeclaredMethods()) {
            if (!Modifier.isPrivate(m.getModifiers())) {
                methods.add(m.getName() + "/" + m.getParameterCount());
                names.add(m.getName());
                DUE.is(m + " is public and of ints", faceMethod(m) ? 1 : 0, 1);
            }
        }
        DUE.is("the methods " + methods, String.join(" ", methods).equals(FACE) ? 1 : 0, 1);
        for (Method m : LogicSmith.class.getDeclaredMethods()) {
            if (Modifier.isPrivate(m.getModifiers())) {
                DUE.is(m + " bears a name of the face", names.contains(m.getName()) ? 1 : 0, 0);
            }
        }
        for (Constructor<?> c : LogicSmith.class.getDeclaredConstructors()) {
            DUE.is(c + " is the constructor", Modifier.isPublic(c.getModifiers()) ? c.getParameterCount() : -1, 0);
        }
        DUE.is("the class is public and final", LogicSmith.class.getModifiers(), Modifier.PUBLIC | Modifier.FINAL);
    }

    private static boolean faceMethod(Method m) {
        boolean ints = m.getReturnType() == int.class && m.getModifiers() == Modifier.PUBLIC;
        for (Class<?> type : m.getParameterTypes()) {
            ints &= type == int.class;
        }
        return ints;
    }

    private static void classesInside() {
        Class<?>[] inside = LogicSmith.class.getDeclaredClasses();
        DUE.is("at most some twelve classes", inside.length <= 11 ? 1 : 0, 1);
        List<Class<?>> classes = new ArrayList<>(Arrays.asList(inside));
        classes.add(LogicSmith.class);
        for (Class<?> c : classes) {
            DUE.is(c + " is static", c == LogicSmith.class || Modifier.isStatic(c.getModifiers()) ? 1 : 0, 1);
            int fields = 0;
            for (Field f : c.getDeclaredFields()) {
                if (Modifier.isStatic(f.getModifiers())) {
                    DUE.is(f + " is final", Modifier.isFinal(f.getModifiers()) ? 1 : 0, 1);
                } else {
                    fields++;
                }
            }
            DUE.is(c + " has some twenty fields at most", fields <= 20 ? 1 : 0, 1);
            for (Method m : c.getDeclaredMethods()) {
                DUE.is(m + " takes at most seven", m.getParameterCount() <= 7 ? 1 : 0, 1);
            }
        }
    }

    private static String code() throws java.io.IOException {
        String text = Files.readString(Path.of("src/main/java/LogicSmith.java"));
        return text.replaceAll("(?s)/\\*.*?\\*/", "").replaceAll("//[^\n]*", "");
    }

    private static void text() throws java.io.IOException {
        String code = code();
        for (String pattern : FORBIDDEN) {
            DUE.is("the text has " + pattern, Pattern.compile(pattern).matcher(code).find() ? 1 : 0, 0);
        }
        Matcher used = Pattern.compile("\\b(Arrays|Math|Integer|Long|System|String|Character)\\.\\w+").matcher(code);
        while (used.find()) {
            boolean imported = used.start() >= 10 && code.startsWith("java.util.", used.start() - 10);
            DUE.is("the library has " + used.group(), imported || LIBRARY.contains(used.group()) ? 1 : 0, 1);
        }
    }

    /** Rule 5: arrays that are written out in the text are never changed. */
    private static void constantArrays() throws java.io.IOException {
        String code = code();
        Matcher array = Pattern.compile("static final \\w+\\[\\] (\\w+) =").matcher(code);
        int arrays = 0;
        while (array.find()) {
            String name = array.group(1);
            Pattern change = Pattern.compile(
                "\\b" + name + "\\[[^;\\]]*\\] *([-+*/|&^]?=[^=]|\\+\\+|--)|fill\\(" + name);
            DUE.is(name + " is changed", change.matcher(code).find() ? 1 : 0, 0);
            arrays++;
        }
        DUE.is("arrays were found", arrays > 3 ? 1 : 0, 1);
    }

    /** Rule 11: methods stay short. A method ends with the brace that stands under its own first sign. */
    private static void shortMethods() throws java.io.IOException {
        String name = "";
        int indent = 0;
        int lines = 0;
        int methods = 0;
        for (String line : Files.readAllLines(Path.of("src/main/java/LogicSmith.java"))) {
            int spaces = line.length() - line.stripLeading().length();
            if (name.isEmpty() && line.matches("( {4}| {8})[^ =(/*]+ [^=/*]*\\) \\{")) {
                name = line.strip();
                indent = spaces;
                lines = 0;
                methods++;
            }
            lines++;
            if (!name.isEmpty() && spaces == indent && line.strip().equals("}")) {
                DUE.is(name + " has some sixty lines at most", lines <= 60 ? 1 : 0, 1);
                name = "";
            }
        }
        DUE.is("methods were found", methods > 80 ? 1 : 0, 1);
    }

    /** All objects and arrays that an object leads to: no call makes any, so they are the same behind many calls. */
    private static void room() throws ReflectiveOperationException {
        long[] before = size(new LogicSmith());
        long[] after = size(Scenes.full().made());
        DUE.is("objects and arrays of an object: " + before[0], before[0] <= MOST_OBJECTS ? 1 : 0, 1);
        DUE.is("fields and elements of an object: " + before[1], before[1] <= MOST_ELEMENTS ? 1 : 0, 1);
        DUE.is("objects behind many calls", after[0], before[0]);
        DUE.is("elements behind many calls", after[1], before[1]);
    }

    private static long[] size(Object root) throws ReflectiveOperationException {
        Set<Object> seen = Collections.newSetFromMap(new IdentityHashMap<>());
        List<Object> open = new ArrayList<>(List.of(root));
        long elements = 0;
        while (!open.isEmpty()) {
            Object object = open.remove(open.size() - 1);
            if (object == null || !seen.add(object)) {
                continue;
            }
            if (object.getClass().isArray()) {
                elements += Array.getLength(object);
                if (object instanceof Object[] objects) {
                    open.addAll(Arrays.asList(objects));
                }
            } else {
                elements += sizeOfFields(object, open);
            }
        }
        return new long[] {seen.size(), elements};
    }

    private static int sizeOfFields(Object object, List<Object> open) throws ReflectiveOperationException {
        int fields = 0;
        for (Field f : object.getClass().getDeclaredFields()) {
            if (!Modifier.isStatic(f.getModifiers())) {
                fields++;
                f.setAccessible(true);
                if (!f.getType().isPrimitive()) {
                    open.add(f.get(object));
                }
            }
        }
        return fields;
    }

    public static void main(String[] args) throws java.io.IOException, ReflectiveOperationException {
        constants();
        face();
        classesInside();
        text();
        constantArrays();
        shortMethods();
        room();
        DUE.end();
    }
}
