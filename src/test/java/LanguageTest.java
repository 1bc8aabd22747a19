import java.io.IOException;
import java.lang.reflect.Field;
import java.lang.reflect.Method;
import java.lang.reflect.Modifier;
import java.nio.file.Files;
import java.nio.file.Path;
import java.util.ArrayList;
import java.util.HashSet;
import java.util.List;
import java.util.Set;
import java.util.regex.Matcher;
import java.util.regex.Pattern;

/** The rules of LANGUAGE.md that a program can look at, by the rule's number. */
public final class LanguageTest {
    private static final Check CHECK = new Check();
    private static final Path SOURCE = Path.of("src/main/java/PacedMux.java");
    private static final int[] EDGES = {Integer.MIN_VALUE, -1, 0, 1, 2, 3, 5, 6, 15, 16, 40, 41,
            59, 60, 61, 255, 256, 1000, Integer.MAX_VALUE};

    /** A method or constructor as it is written: its first line and the lines in it. */
    private record Written(String head, List<String> lines) {
    }

    public static void main(String[] args) throws IOException {
        List<Class<?>> classes = allClasses();
        rule1(classes);
        rule2(classes);
        rules3And5(classes);
        rule11(classes);
        List<String> source = Files.readAllLines(SOURCE);
        String code = String.join("\n", source).replaceAll("(?s)/\\*.*?\\*/|//[^\n]*", "");
        words(code);
        names(code, classes);
        methods(source);
        rule7();
        CHECK.end();
    }

    private static void holds(String what, boolean right) {
        CHECK.due(what, right ? 1 : 0, 1);
    }

    private static List<Class<?>> allClasses() {
        List<Class<?>> classes = new ArrayList<>();
        classes.add(PacedMux.class);
        for (int i = 0; i < classes.size(); i++) {
            classes.addAll(List.of(classes.get(i).getDeclaredClasses()));
        }
        return classes;
    }

    /** "No private method bears the name of a public one": none inside the file does. */
    private static void rule1(List<Class<?>> classes) {
        Set<String> face = new HashSet<>();
        for (Method method : PacedMux.class.getMethods()) {
            face.add(method.getName());
        }
        for (Class<?> one : classes) {
            for (Method method : one.getDeclaredMethods()) {
                boolean open = one == PacedMux.class && Modifier.isPublic(method.getModifiers());
                holds("rule 1: " + method, open || !face.contains(method.getName()));
            }
        }
    }

    private static void rule2(List<Class<?>> classes) {
        for (Class<?> one : classes) {
            int modifiers = one.getModifiers();
            boolean hidden = !Modifier.isPublic(modifiers) && !Modifier.isProtected(modifiers);
            holds("rule 2: " + one, one == PacedMux.class
                    || hidden && Modifier.isStatic(modifiers));
        }
    }

    /** This class needs no more than int, boolean, rows of int, and its own classes. */
    private static void rules3And5(List<Class<?>> classes) {
        for (Class<?> one : classes) {
            for (Field field : one.getDeclaredFields()) {
                Class<?> type = field.getType();
                Class<?> of = type.isArray() ? type.getComponentType() : type;
                holds("rule 3: " + field,
                        of == int.class || type == boolean.class || classes.contains(of));
                int modifiers = field.getModifiers();
                holds("rule 5: " + field, !Modifier.isStatic(modifiers)
                        || Modifier.isFinal(modifiers) && type == int.class);
            }
        }
    }

    private static void rule11(List<Class<?>> classes) {
        holds("rule 11: at most twelve classes", classes.size() <= 12);
        for (Class<?> one : classes) {
            int fields = 0;
            for (Field field : one.getDeclaredFields()) {
                fields += Modifier.isStatic(field.getModifiers()) ? 0 : 1;
            }
            holds("rule 11: the fields of " + one, fields <= 20);
            for (Method method : one.getDeclaredMethods()) {
                holds("rule 11: " + method, method.getParameterCount() <= 7);
            }
        }
    }

    /** What rules 2, 5, 6 and 13 rule out, and exceptions, which the document has none of. */
    private static void words(String code) {
        for (String word : List.of("package", "import", "try", "catch", "finally", "throw",
                "throws", "synchronized", "assert", "native", "volatile", "double", "float")) {
            holds("no " + word, !Pattern.compile("\\b" + word + "\\b").matcher(code).find());
        }
        for (String sign : List.of("->", "::", "@", "static {", "\"")) {
            holds("no " + sign, !code.contains(sign));
        }
    }

    /** Rules 4 and 13: of the library Math alone is named, and of it three functions. */
    private static void names(String code, List<Class<?>> classes) {
        Set<String> own = new HashSet<>();
        for (Class<?> one : classes) {
            own.add(one.getSimpleName());
        }
        Matcher named = Pattern.compile("\\b[A-Z]\\w*[a-z]\\w*(\\.\\w+)?").matcher(code);
        while (named.find()) {
            String name = named.group();
            holds("rule 4: " + name, own.contains(name)
                    || List.of("Math.max", "Math.min", "Math.floorMod").contains(name));
        }
    }

    /** Rules 11 and 12: short methods, and rows made in constructors and for fields alone. */
    private static void methods(List<String> source) {
        List<Written> all = written(source);
        int made = 0;
        for (Written method : all) {
            holds("rule 11: " + method.head(), method.lines().size() <= 60);
            boolean constructor = method.head().matches("(public )?[A-Z]\\w*\\(.*");
            for (String line : method.lines()) {
                if (line.contains("new ")) {
                    made++;
                    holds("rule 12: " + method.head() + " " + line, constructor);
                }
            }
        }
        holds("the methods were found", all.size() > 40 && made > 0);
    }

    /** Methods stand at four or eight spaces and end with a brace at the same place. */
    private static List<Written> written(List<String> source) {
        List<Written> all = new ArrayList<>();
        Pattern head = Pattern.compile("( {4}| {8})(\\w.*\\) \\{)");
        for (int i = 0; i < source.size(); i++) {
            Matcher found = head.matcher(source.get(i));
            if (!found.matches() || found.group(2).matches("(if|for|while|switch) .*")) {
                continue;
            }
            List<String> lines = new ArrayList<>();
            for (int k = i + 1; k < source.size()
                    && !source.get(k).equals(found.group(1) + "}"); k++) {
                lines.add(source.get(k));
            }
            all.add(new Written(found.group(2), lines));
        }
        return all;
    }

    /**
     * "No call may ever throw by itself": not even behind the 512th, where the answers are
     * free and are not looked at here.
     */
    private static void rule7() {
        int calls = 0;
        try {
            for (int leak : EDGES) {
                PacedMux x = new PacedMux(leak, EDGES[EDGES.length - 1] - leak);
                for (int a : EDGES) {
                    for (int b : EDGES) {
                        everyCall(x, a, b);
                        calls++;
                    }
                }
            }
        } catch (RuntimeException thrown) {
            System.out.println("rule 7: " + thrown);
        }
        CHECK.due("rule 7: rounds of calls", calls, EDGES.length * EDGES.length * EDGES.length);
    }

    private static void everyCall(PacedMux x, int a, int b) {
        int time = x.tick(0);
        for (int s = 0; s < 3; s++) {
            x.add(s, 1 + (a & 31), time + 1 + (b & 15), a & 255);
        }
        x.add(a, b, time + 3, b);
        x.add(b, a, b, a);
        x.tick(a);
        x.lose(b);
        x.spoil(a, b);
        x.spoil(1, a & 255);
        x.tick(1);
        x.packet(a);
        x.waiting(a);
        x.stored(a);
        x.levels(a);
        x.late(a);
        x.clock();
        x.count(a);
        x.latest(a, b);
        x.latest(0, b);
        x.letter(a, b);
        x.letter(0, b);
        if (a == 2) {
            x.retune();
        }
    }
}
