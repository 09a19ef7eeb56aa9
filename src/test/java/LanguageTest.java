import java.io.IOException;
import java.lang.reflect.Constructor;
import java.lang.reflect.Field;
import java.lang.reflect.Method;
import java.lang.reflect.Modifier;
import java.nio.file.Files;
import java.nio.file.Path;
import java.util.ArrayList;
import java.util.Arrays;
import java.util.HashMap;
import java.util.List;
import java.util.Map;
import java.util.Set;
import java.util.TreeSet;
import java.util.regex.Matcher;
import java.util.regex.Pattern;

/** The face of the class, and the rules of LANGUAGE.md that can be seen in the source or by reflection. */
public final class LanguageTest {
    private static final Due T = new Due();
    private static final String[] FACE = {
        "feed(int)", "write()", "fault()", "put(int,int,int,int)", "told(int)", "number(int,int)", "square(int,int)",
        "run(int,int)", "multiply(int,int)", "back(int)", "carry(int,int)", "raise(int,int)", "take(int)", "drift(int)",
        "undo(int)", "pair(int,int,int)", "note(int,int,boolean)", "tear()", "seed(int)", "keep(int)", "goBack(int)"};
    private static final String[] CONSTANTS = {"NONE", "UNKNOWN", "OUTSIDE", "NOT", "FULL"};
    private static final String[] FORBIDDEN = {
        "\\bthrow\\b", "\\bthrows\\b", "\\btry\\b", "\\bcatch\\b", "\\bsynchronized\\b", "\\bassert\\b", "\\bpackage\\b",
        "\\bimport\\b", "->", "::", "\\bExact\\b", "\\w+Exact\\(", "\\bObject\\b", "\\bdouble\\b", "\\bfloat\\b",
        "\\bthis\\.", "\\bMap\\b", "\\bThread\\b", "\\bSystem\\.(?!arraycopy\\()", "\\bwhile \\(true", "\\bfor \\(;"};

    public static void main(String[] args) throws IOException {
        face();
        nestedClasses();
        String source = Files.readString(Path.of(System.getProperty("matrixkin.source", "src/main/java/MatrixKin.java")));
        source(source);
        methods(source.split("\n"));
        T.end();
    }

    private static String signature(Method m) {
        List<String> types = new ArrayList<>();
        for (Class<?> type : m.getParameterTypes()) {
            types.add(type.getSimpleName());
        }
        return m.getName() + "(" + String.join(",", types) + ")";
    }

    private static void face() {
        Set<String> open = new TreeSet<>();
        Set<String> names = new TreeSet<>();
        for (Method m : MatrixKin.class.getDeclaredMethods()) {
            if (!Modifier.isPrivate(m.getModifiers())) {
                open.add(signature(m));
                names.add(m.getName());
                T.holds("rule 1: public " + m, Modifier.isPublic(m.getModifiers()));
                T.holds("face: int " + m, m.getReturnType() == int.class);
            }
        }
        T.holds("face: the methods " + open, open.equals(new TreeSet<>(Arrays.asList(FACE))));
        for (Method m : MatrixKin.class.getDeclaredMethods()) {
            boolean isPrivate = Modifier.isPrivate(m.getModifiers());
            T.holds("rule 1: no private " + m, !isPrivate || !names.contains(m.getName()));
        }
        Set<String> constants = new TreeSet<>();
        for (Field f : MatrixKin.class.getDeclaredFields()) {
            boolean isPrivate = Modifier.isPrivate(f.getModifiers());
            T.holds("rule 5: final " + f, !Modifier.isStatic(f.getModifiers()) || Modifier.isFinal(f.getModifiers()));
            if (!isPrivate) {
                constants.add(f.getName());
            }
        }
        T.holds("face: the constants", constants.equals(new TreeSet<>(Arrays.asList(CONSTANTS))));
        Constructor<?>[] makers = MatrixKin.class.getDeclaredConstructors();
        T.holds("face: one constructor", makers.length == 1 && makers[0].getParameterCount() == 0
            && Modifier.isPublic(makers[0].getModifiers()));
        T.holds("face: final", Modifier.isFinal(MatrixKin.class.getModifiers()));
        int[] values = {MatrixKin.NONE, MatrixKin.UNKNOWN, MatrixKin.OUTSIDE, MatrixKin.NOT, MatrixKin.FULL};
        T.holds("face: values", Arrays.equals(values, new int[] {-1, -1000000001, -1000000002, -1000000003, -1000000004}));
    }

    private static void nestedClasses() {
        Class<?>[] nested = MatrixKin.class.getDeclaredClasses();
        T.holds("rule 11: some twelve classes", nested.length + 1 <= 12);
        Set<String> publicNames = new TreeSet<>();
        for (String one : FACE) {
            publicNames.add(one.substring(0, one.indexOf('(')));
        }
        for (Class<?> c : nested) {
            T.holds("rule 2: static " + c, Modifier.isStatic(c.getModifiers()));
            T.holds("rule 1: not public " + c, !Modifier.isPublic(c.getModifiers()) && !Modifier.isProtected(c.getModifiers()));
            T.holds("rule 11: fields of " + c, c.getDeclaredFields().length <= 20);
            for (Method m : c.getDeclaredMethods()) {
                T.holds("rule 11: parameters of " + m, m.getParameterCount() <= 7);
                T.holds("rule 1: the name of " + m, !publicNames.contains(m.getName()));
            }
        }
    }

    private static void source(String source) {
        String code = source.replaceAll("/\\*(?s:.*?)\\*/", "").replaceAll("//[^\n]*", "");
        for (String forbidden : FORBIDDEN) {
            Matcher m = Pattern.compile(forbidden).matcher(code);
            T.holds("rule: " + forbidden, !m.find());
        }
        T.holds("signs 1 to 127", source.chars().allMatch(c -> c == '\n' || c >= 32 && c < 127));
        // What a run makes is made with its object: new stands in field initialisers and constructors alone.
        Matcher made = Pattern.compile("\n( *)([^\n]*)\\bnew\\b").matcher(code);
        while (made.find()) {
            String line = made.group(2);
            T.holds("rule 12: made in a call: " + line, line.contains("private final") || line.matches("\\w+\\[[is]\\] = "));
        }
        // A constructor that is given nothing can be handed nothing of the object that makes it.
        Matcher given = Pattern.compile("\\bnew \\w+\\((?!\\))[^\n]*").matcher(code);
        T.holds("rule 12: handed out by a constructor", !given.find());
    }

    private static void methods(String[] lines) {
        Pattern head = Pattern.compile("^( {4}| {8})(?=\\S)[\\w\\[\\] ]*?(\\w+)\\([^;=]*\\) \\{$");
        Map<String, String> bodies = new HashMap<>();
        String name = "";
        String indent = "";
        int start = -1;
        for (int i = 0; i < lines.length; i++) {
            Matcher m = head.matcher(lines[i]);
            if (m.matches()) {
                start = i;
                indent = m.group(1);
                name = m.group(2);
            }
            if (start >= 0 && lines[i].equals(indent + "}")) {
                T.holds("rule 11: length of " + name, i - start <= 60);
                bodies.merge(name, String.join("\n", Arrays.copyOfRange(lines, start + 1, i)), String::concat);
                start = -1;
            }
        }
        T.holds("the methods are found", bodies.keySet().containsAll(List.of("feed", "goBack", "lookAround", "MatrixKin")));
        for (String each : bodies.keySet()) {
            T.holds("rule 11: at most eight deep: " + each, depth(each, bodies, 0) <= 8);
        }
    }

    /**
     * How deep calls go. Methods of one name in several classes count as one, and one that calls its own name (of another
     * class: there is no recursion) as two, so that it is never told too low.
     */
    private static int depth(String name, Map<String, String> bodies, int above) {
        int deepest = 0;
        int own = 1;
        Matcher called = Pattern.compile("\\b(\\w+)\\(").matcher(bodies.get(name));
        while (called.find() && above < 20) {
            String next = called.group(1);
            if (next.equals(name)) {
                own = 2;
            } else if (bodies.containsKey(next)) {
                deepest = Math.max(deepest, depth(next, bodies, above + 1));
            }
        }
        return deepest + own;
    }
}
