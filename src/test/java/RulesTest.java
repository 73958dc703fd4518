import java.io.IOException;
import java.lang.reflect.Constructor;
import java.lang.reflect.Field;
import java.lang.reflect.Method;
import java.lang.reflect.Modifier;
import java.nio.file.Files;
import java.nio.file.Path;
import java.util.ArrayList;
import java.util.List;
import java.util.TreeSet;
import java.util.regex.Matcher;
import java.util.regex.Pattern;

/** The public face as the document has it, and those rules of LANGUAGE.md that can be seen from outside. */
public final class RulesTest {
    private static final String SOURCE = "src/main/java/SpanningProbes.java";
    private static final List<String> FACE = List.of(
        "int edge(int, int)", "int seal()", "boolean back(int)", "int depth(int)", "boolean probe(int)",
        "int increment(int)", "int reset(int)", "boolean start()", "int take(int)", "int walk(int, int)",
        "int stop()", "int at()", "int register()", "int count(int)", "int visits(int)", "int passed(int)",
        "int along(int, int)", "int stopped(int)", "int covered(int)", "void clear()");
    private static final Due due = new Due();

    public static void main(String[] args) throws IOException {
        faceIsTheDocuments();
        nestedClassesAreStatic();
        whatIsKeptIsMadeOnce();
        String code = withoutComments(Files.readString(Path.of(SOURCE)));
        wordsAreAllowed(code);
        libraryIsAllowed(code);
        due.end("RulesTest");
    }

    private static String withoutComments(String source) {
        return source.replaceAll("(?s)/\\*.*?\\*/", " ").replaceAll("//[^\n]*", " ");
    }

    private static String described(Method m) {
        List<String> types = new ArrayList<>();
        for (Class<?> type : m.getParameterTypes()) {
            types.add(type.getName());
        }
        return m.getReturnType().getName() + " " + m.getName() + "(" + String.join(", ", types) + ")";
    }

    private static void faceIsTheDocuments() {
        Class<?> c = SpanningProbes.class;
        due.holds("rule 1: public and final", Modifier.isPublic(c.getModifiers()) && Modifier.isFinal(c.getModifiers()));
        TreeSet<String> seen = new TreeSet<>();
        TreeSet<String> publicNames = new TreeSet<>();
        for (Method m : c.getDeclaredMethods()) {
            if (!Modifier.isPrivate(m.getModifiers())) {
                due.holds("rule 1: public, not static: " + m, (m.getModifiers() & ~Modifier.PUBLIC) == 0 && Modifier.isPublic(m.getModifiers()));
                seen.add(described(m));
                publicNames.add(m.getName());
            }
        }
        due.holds("rule 1: the methods are those of the document", seen.equals(new TreeSet<>(FACE)));
        for (Method m : c.getDeclaredMethods()) {
            due.holds("rule 1: a name of its own: " + m, !Modifier.isPrivate(m.getModifiers()) || !publicNames.contains(m.getName()));
        }
        Constructor<?>[] made = c.getDeclaredConstructors();
        due.same("rule 1: one constructor", made.length, 1);
        due.holds("rule 1: it takes an int", Modifier.isPublic(made[0].getModifiers()) && made[0].getParameterCount() == 1 && made[0].getParameterTypes()[0] == int.class);
        for (Field f : c.getDeclaredFields()) {
            due.holds("rule 1: field " + f, Modifier.isPrivate(f.getModifiers()) || f.getName().equals("NONE"));
            due.holds("rule 5: static field " + f, !Modifier.isStatic(f.getModifiers()) || Modifier.isFinal(f.getModifiers()));
        }
    }

    private static void nestedClassesAreStatic() {
        Class<?>[] nested = SpanningProbes.class.getDeclaredClasses();
        due.holds("rule 11: at most twelve classes", nested.length < 12);
        for (Class<?> c : nested) {
            int modifiers = c.getModifiers();
            due.holds("rule 1: " + c + " is static and not public", Modifier.isStatic(modifiers) && !Modifier.isPublic(modifiers) && !Modifier.isProtected(modifiers));
            due.holds("rule 11: fields of " + c, c.getDeclaredFields().length <= 20);
            for (Method m : c.getDeclaredMethods()) {
                due.holds("rule 11: parameters of " + m, m.getParameterCount() <= 7);
            }
        }
    }

    private static void wordsAreAllowed(String code) {
        String[] words = {"throw", "throws", "try", "catch", "synchronized", "assert", "package", "protected",
            "volatile", "native", "transient", "System\\.(?!arraycopy)", "hashCode", "toString", "Random", "Thread"};
        for (String word : words) {
            due.holds("rules 6 and 13: no " + word, !Pattern.compile("\\b" + word).matcher(code).find());
        }
        due.holds("rule 2: no lambda and no method reference", !code.contains("->") && !code.contains("::"));
        due.holds("rule 3: no text joined by +", !code.contains("\""));
    }

    private static void libraryIsAllowed(String code) {
        Matcher imports = Pattern.compile("import ([^;]+);").matcher(code);
        while (imports.find()) {
            due.holds("rule 4: import " + imports.group(1), List.of("java.util.Arrays", "java.util.ArrayList", "java.util.List").contains(imports.group(1)));
        }
        Matcher calls = Pattern.compile("\\b(Math|Arrays|Integer|Long)\\.(\\w+)").matcher(code);
        while (calls.find()) {
            due.holds("rule 4: " + calls.group(), List.of("Math.max", "Math.min", "Arrays.fill", "Integer.MIN_VALUE").contains(calls.group()));
        }
    }

    /** What an object keeps is made with it, so a run of calls keeps no more than its objects' rows. */
    private static void whatIsKeptIsMadeOnce() {
        keepsFinalReferences(SpanningProbes.class);
        for (Class<?> c : SpanningProbes.class.getDeclaredClasses()) {
            keepsFinalReferences(c);
        }
    }

    private static void keepsFinalReferences(Class<?> c) {
        for (Field f : c.getDeclaredFields()) {
            due.holds("rule 12: made once: " + f, f.getType().isPrimitive() || Modifier.isFinal(f.getModifiers()));
        }
    }
}
