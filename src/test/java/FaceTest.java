import java.io.IOException;
import java.lang.reflect.Constructor;
import java.lang.reflect.Field;
import java.lang.reflect.Method;
import java.lang.reflect.Modifier;
import java.nio.file.Files;
import java.nio.file.Path;
import java.util.Map;
import java.util.Set;
import java.util.TreeSet;

/** The public face, and those rules of LANGUAGE.md that can be read off the class or its text. */
public final class FaceTest {
    private static final Checks C = new Checks("FaceTest");

    private static final Set<String> FACE = Set.of(
        "int letter(int)", "int blank()", "int fault()", "int chest()", "int face(int)",
        "int drawer(int,int)", "int person(int,int,int)", "int about(int,int)", "int as(int,int)",
        "int move(int,int)", "int lay(int,int,boolean)", "int agrees(int,int)", "int sure(int,int)",
        "int few(int,int,int)", "int found(int,int,boolean)", "int forget()", "int delays(int)",
        "int who(int,int)", "int weeks(int,int,int)", "int image()", "int restore()",
        "int count(int)", "long digest()");

    private static final Map<String, Integer> CONSTANTS = Map.of(
        "NONE", -1, "UNKNOWN", -101, "OUTSIDE", -102, "STATE", -103, "FULL", -104);

    private static void is(String what, boolean holds) {
        C.due(what, holds ? 1 : 0, 1);
    }

    private static String told(Method m) {
        StringBuilder text = new StringBuilder(m.getReturnType() + " " + m.getName() + "(");
        for (Class<?> type : m.getParameterTypes()) {
            text.append(text.charAt(text.length() - 1) == '(' ? "" : ",").append(type);
        }
        return text.append(")").toString();
    }

    private static void methods() {
        C.part("methods");
        Set<String> open = new TreeSet<>();
        Set<String> names = new TreeSet<>();
        for (Method m : NineDrawers.class.getDeclaredMethods()) {
            if (Modifier.isPublic(m.getModifiers())) {
                open.add(told(m));
                names.add(m.getName());
                is("static " + m, !Modifier.isStatic(m.getModifiers()));
            }
        }
        is("the public methods " + open, open.equals(FACE));
        for (Method m : NineDrawers.class.getDeclaredMethods()) {
            if (!Modifier.isPublic(m.getModifiers()) && !m.isSynthetic()) {
                is(m + " is private", Modifier.isPrivate(m.getModifiers()));
                is(m + " bears no public one's name", !names.contains(m.getName()));
            }
        }
    }

    private static void fields() throws IllegalAccessException {
        C.part("fields");
        int open = 0;
        for (Field f : NineDrawers.class.getDeclaredFields()) {
            if (f.isSynthetic()) {
                continue;
            }
            int modifiers = f.getModifiers();
            is(f + " is final if static", Modifier.isFinal(modifiers) || !Modifier.isStatic(modifiers));
            if (Modifier.isPublic(modifiers)) {
                open++;
                is(f.getName() + " is told", CONSTANTS.containsKey(f.getName()));
                C.due(f.getName(), f.getInt(null), CONSTANTS.getOrDefault(f.getName(), 0));
            } else {
                is(f + " is private", Modifier.isPrivate(modifiers));
            }
        }
        C.due("public constants", open, CONSTANTS.size());
    }

    private static void classes() {
        C.part("classes");
        is("public and final", Modifier.isPublic(NineDrawers.class.getModifiers())
            && Modifier.isFinal(NineDrawers.class.getModifiers()));
        Constructor<?>[] made = NineDrawers.class.getDeclaredConstructors();
        C.due("constructors", made.length, 1);
        is("a public one without parameters",
            Modifier.isPublic(made[0].getModifiers()) && made[0].getParameterCount() == 0);
        for (Class<?> inside : NineDrawers.class.getDeclaredClasses()) {
            is(inside + " is not open", !Modifier.isPublic(inside.getModifiers())
                && !Modifier.isProtected(inside.getModifiers()));
        }
    }

    private static void text() throws IOException {
        C.part("text");
        String source = Files.readString(Path.of("src/main/java/NineDrawers.java"));
        String[] forbidden = {"package ", "finally", "::", "synchronized", "assert ", "Exact(", "Random", "Thread"};
        for (String word : forbidden) {
            is("no '" + word + "'", !source.contains(word));
        }
        for (String line : source.split("\n")) {
            String told = line.strip();
            is("rule 4: " + told, !told.startsWith("import ")
                || told.matches("import java\\.util\\.(ArrayList|List|Arrays|Iterator|NoSuchElementException);"));
            is("rule 4: " + told, !told.replace("System.arraycopy", "").contains("System."));
            is("rule 2, a lambda: " + told, !told.contains("->") || told.matches("(case|default)\\b.*"));
        }
        for (char c : source.toCharArray()) {
            if (c > 126) {
                is("no sign above 126, " + (int) c, false);
            }
        }
    }

    public static void main(String[] args) throws Exception {
        methods();
        fields();
        classes();
        text();
        C.end();
    }
}
