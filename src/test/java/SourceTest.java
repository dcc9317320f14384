import java.io.IOException;
import java.lang.reflect.Constructor;
import java.lang.reflect.Field;
import java.lang.reflect.Method;
import java.lang.reflect.Modifier;
import java.nio.file.Files;
import java.nio.file.Path;
import java.util.ArrayList;
import java.util.List;
import java.util.Set;
import java.util.TreeSet;
import java.util.regex.Matcher;
import java.util.regex.Pattern;

/** The document's face, and what can be seen of LANGUAGE.md's rules in the class and its source. */
public final class SourceTest {
    private static final Set<String> FACE = Set.of(
        "int nursery(int,int,int,int)", "int ofRider(int,int)", "int far(int)", "int wax(int)", "int lean(int,int)",
        "int minutes(int)", "int shut(int)", "int look(int)", "int afternoon(int,int,int,int,int)",
        "int comes(int,int)", "int together(int,int)", "int waits(int,int)", "int scouts()", "int guides(int)",
        "int reading(int,int,int)", "int back(int)", "int leans(int)", "int kinds(int)", "int creaks()",
        "long odds(int,int,int)", "int sheet(int,int,int)", "int lose(int)", "int put(int,int,int)",
        "long cell(int,int,int)", "int copy(int,int,int,int,int)", "int tell(int)", "int call(int)",
        "int as(int,int)", "int trace()", "int fault()", "int many(int)");
    private static final Set<String> CONSTANTS = Set.of("UNKNOWN", "OUTSIDE", "STATE", "FULL", "NONE", "LOST");
    /** Every word before a dot and every class that is named may be one of these or one of its own. */
    private static final Set<String> LIBRARY = Set.of("Integer", "Long", "Math", "System", "String", "Arrays");

    private SourceTest() {
    }

    public static void main(String[] args) throws IOException {
        face();
        classesInside();
        fields();
        methods();
        Path path = Path.of(System.getProperty("rockingriders.source", "src/main/java/RockingRiders.java"));
        source(Files.readString(path));
        Checks.end();
    }

    private static boolean isPrivate(int modifiers) {
        return Modifier.isPrivate(modifiers);
    }

    private static void face() {
        Class<?> c = RockingRiders.class;
        Checks.holds("public and final", Modifier.isPublic(c.getModifiers()) && Modifier.isFinal(c.getModifiers()));
        Set<String> seen = new TreeSet<>();
        for (Method m : c.getDeclaredMethods()) {
            if (!isPrivate(m.getModifiers())) {
                StringBuilder b = new StringBuilder(m.getReturnType() + " " + m.getName() + "(");
                for (Class<?> p : m.getParameterTypes()) {
                    b.append(b.charAt(b.length() - 1) == '(' ? "" : ",").append(p);
                }
                seen.add(b.append(")").toString());
                Checks.holds(m + " is public, of an object", Modifier.isPublic(m.getModifiers())
                    && !Modifier.isStatic(m.getModifiers()));
            }
        }
        Checks.holds("its methods: " + seen, seen.equals(new TreeSet<>(FACE)));
        Set<String> constants = new TreeSet<>();
        for (Field f : c.getDeclaredFields()) {
            if (!isPrivate(f.getModifiers())) {
                constants.add(f.getName());
                Checks.holds(f + " is a public constant", Modifier.isPublic(f.getModifiers())
                    && Modifier.isStatic(f.getModifiers()) && Modifier.isFinal(f.getModifiers()));
                Class<?> want = f.getName().equals("LOST") ? long.class : int.class;
                Checks.holds(f + " is of its type", f.getType() == want);
            }
        }
        Checks.holds("its constants: " + constants, constants.equals(new TreeSet<>(CONSTANTS)));
        Constructor<?>[] made = c.getDeclaredConstructors();
        Checks.holds("one public constructor of nothing", made.length == 1
            && Modifier.isPublic(made[0].getModifiers()) && made[0].getParameterCount() == 0);
    }

    private static List<Class<?>> classes() {
        List<Class<?>> all = new ArrayList<>(List.of(RockingRiders.class.getDeclaredClasses()));
        all.add(0, RockingRiders.class);
        return all;
    }

    private static void classesInside() {
        Checks.holds("some twelve classes", classes().size() <= 12);
        for (Class<?> c : RockingRiders.class.getDeclaredClasses()) {
            Checks.holds(c + " is static", Modifier.isStatic(c.getModifiers()));
            Checks.holds(c + " is not public or protected", !Modifier.isPublic(c.getModifiers())
                && !Modifier.isProtected(c.getModifiers()));
            Checks.due(c + " has no classes inside", c.getDeclaredClasses().length, 0);
        }
    }

    private static void fields() {
        for (Class<?> c : classes()) {
            int own = 0;
            for (Field f : c.getDeclaredFields()) {
                boolean isStatic = Modifier.isStatic(f.getModifiers());
                own += isStatic ? 0 : 1;
                Checks.holds(f + " is final if static", !isStatic || Modifier.isFinal(f.getModifiers()));
            }
            Checks.holds(c + " has some twenty fields at most", own <= 20);
        }
    }

    private static void methods() {
        Set<String> publicNames = new TreeSet<>();
        for (Method m : RockingRiders.class.getDeclaredMethods()) {
            if (Modifier.isPublic(m.getModifiers())) {
                publicNames.add(m.getName());
            }
        }
        for (Class<?> c : classes()) {
            for (Method m : c.getDeclaredMethods()) {
                Checks.holds(m + " takes seven at most", m.getParameterCount() <= 7);
                Checks.holds(m + " bears no public one's name", Modifier.isPublic(m.getModifiers())
                    || !publicNames.contains(m.getName()));
            }
        }
    }

    private static void source(String text) {
        Checks.holds("no package line", !Pattern.compile("^\\s*package\\b", Pattern.MULTILINE).matcher(text).find());
        for (int i = 0; i < text.length(); i++) {
            Checks.holds("a sign of 1 .. 127 at " + i, text.charAt(i) >= 1 && text.charAt(i) <= 127);
        }
        String code = text.replaceAll("(?s)/\\*.*?\\*/", " ").replaceAll("//[^\n]*", " ");
        String[] words = {"throw", "throws", "try", "catch", "finally", "synchronized", "assert", "volatile", "native",
            "var", "yield", "equals", "hashCode", "toString", "Exception", "Random", "Thread", "HashMap", "Object",
            "currentTimeMillis", "nanoTime", "identityHashCode", "protected"};
        for (String word : words) {
            Checks.holds("no word " + word, !Pattern.compile("\\b" + word + "\\b").matcher(code).find());
        }
        Checks.holds("no lambda or method reference", !code.contains("->") && !code.contains("::"));
        Checks.holds("nothing that ends in Exact", !code.contains("Exact"));
        Checks.holds("no annotation", !code.contains("@"));
        Checks.holds("no empty loop head", !Pattern.compile("while\\s*\\(true\\)|for\\s*\\(;").matcher(code).find());
        Matcher m = Pattern.compile("\\b([A-Z][a-z]\\w*)\\b").matcher(code);
        Set<String> own = new TreeSet<>(List.of("RockingRiders"));
        for (Class<?> c : RockingRiders.class.getDeclaredClasses()) {
            own.add(c.getSimpleName());
        }
        while (m.find()) {
            Checks.holds(m.group(1) + " is its own or the library's that may be used",
                own.contains(m.group(1)) || LIBRARY.contains(m.group(1)));
        }
        imports(code);
    }

    private static void imports(String code) {
        Matcher m = Pattern.compile("import\\s+([\\w.]+)\\s*;").matcher(code);
        Set<String> may = Set.of("java.util.ArrayList", "java.util.List", "java.util.Arrays", "java.util.Iterator");
        while (m.find()) {
            Checks.holds("import " + m.group(1), may.contains(m.group(1)));
        }
    }
}
