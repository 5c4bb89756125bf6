import java.lang.reflect.Constructor;
import java.lang.reflect.Field;
import java.lang.reflect.Method;
import java.lang.reflect.Modifier;
import java.nio.file.Files;
import java.nio.file.Path;
import java.util.Set;
import java.util.TreeSet;
import java.util.regex.Pattern;

/** The face of the document, and those rules of LANGUAGE.md that can be told from the class and its text. */
public final class LanguageTest {
    private static final Due DUE = new Due();
    private static final String FACE = "at/2 back/1 bits/4 cared/2 comes/2 count/1 function/1 gate/4 graph/2 keep/3 "
        + "least/1 letters/0 net/1 order/1 out/3 output/2 parts/2 places/2 prime/2 primes/1 put/3 remove/1 same/2 "
        + "shape/1 step/2 summed/1 take/3 tear/3 told/3 value/3 weight/1";
    private static final String[] FORBIDDEN = {
        "\\b(throw|throws|try|catch|synchronized|assert|instanceof|volatile|transient|native)\\b", "->", "::",
        "\\bimport (?!java\\.util\\.Arrays;)", "\\bpackage\\b", "Exact\\b", "\\bSystem\\.(?!arraycopy\\b)",
        "\\bstatic\\s*\\{", "\\bstatic (?!final\\b)[\\w\\[\\]]+ \\w+( =|;)", "\\bnew \\w+\\[[^\\]]*\\]\\["
    };

    private static void face() {
        Set<String> methods = new TreeSet<>();
        Set<String> names = new TreeSet<>();
        for (Method m : LogicSmith.class.getDeclaredMethods()) {
            if (!Modifier.isPrivate(m.getModifiers())) {
                methods.add(m.getName() + "/" + m.getParameterCount());
                names.add(m.getName());
                DUE.is(m + " is public and of ints", faceMethod(m) ? 1 : 0, 1);
            }
        }
        DUE.is("the methods " + methods, String.join(" ", methods).equals(FACE) ? 1 : 0, 1);
        for (Method m : LogicSmith.class.getDeclaredMethods()) {
            if (Modifier.isPrivate(m.getModifiers())) {
                DUE.is(m + " bears a name of the face", names.contains(m.getName()) ? 1 : 0, 0);
            }
        }
        for (Constructor<?> c : LogicSmith.class.getDeclaredConstructors()) {
            DUE.is(c + " is the constructor", Modifier.isPublic(c.getModifiers()) ? c.getParameterCount() : -1, 0);
        }
        int constants = 0;
        for (Field f : LogicSmith.class.getDeclaredFields()) {
            if (!Modifier.isPrivate(f.getModifiers())) {
                constants++;
            }
        }
        DUE.is("fields that are not private", constants, 5);
        DUE.is("the class is public and final", LogicSmith.class.getModifiers(), Modifier.PUBLIC | Modifier.FINAL);
    }

    private static boolean faceMethod(Method m) {
        boolean ints = m.getReturnType() == int.class && m.getModifiers() == Modifier.PUBLIC;
        for (Class<?> type : m.getParameterTypes()) {
            ints &= type == int.class;
        }
        return ints;
    }

    private static void classesInside() {
        Class<?>[] inside = LogicSmith.class.getDeclaredClasses();
        DUE.is("at most some twelve classes", inside.length <= 11 ? 1 : 0, 1);
        for (Class<?> c : inside) {
            DUE.is(c + " is static", Modifier.isStatic(c.getModifiers()) ? 1 : 0, 1);
            int fields = 0;
            for (Field f : c.getDeclaredFields()) {
                if (Modifier.isStatic(f.getModifiers())) {
                    DUE.is(f + " is final", Modifier.isFinal(f.getModifiers()) ? 1 : 0, 1);
                } else {
                    fields++;
                }
            }
            DUE.is(c + " has some twenty fields at most", fields <= 20 ? 1 : 0, 1);
            for (Method m : c.getDeclaredMethods()) {
                DUE.is(m + " takes at most seven", m.getParameterCount() <= 7 ? 1 : 0, 1);
            }
        }
    }

    private static void text() throws java.io.IOException {
        String text = Files.readString(Path.of("src/main/java/LogicSmith.java"));
        String code = text.replaceAll("(?s)/\\*.*?\\*/", "").replaceAll("//[^\n]*", "");
        for (String pattern : FORBIDDEN) {
            DUE.is("the text has " + pattern, Pattern.compile(pattern).matcher(code).find() ? 1 : 0, 0);
        }
    }

    public static void main(String[] args) throws java.io.IOException {
        face();
        classesInside();
        text();
        DUE.end();
    }
}
