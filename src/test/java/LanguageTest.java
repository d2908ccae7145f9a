import java.lang.reflect.Constructor;
import java.lang.reflect.Field;
import java.lang.reflect.Method;
import java.lang.reflect.Modifier;
import java.nio.file.Files;
import java.nio.file.Path;
import java.util.Arrays;
import java.util.Map;
import java.util.Set;
import java.util.TreeMap;
import java.util.TreeSet;
import java.util.regex.Matcher;
import java.util.regex.Pattern;

/** The face that the document tells, and what of LANGUAGE.md's rules shows in the class or in its text. */
public final class LanguageTest {
    /** The document's own text of the face: what is public there must be public here, and nothing else. */
    private static final Pattern FACE_BLOCK = Pattern.compile(
            "(?s)## The public face\\s+```java\\s+(public final class TailorTape \\{.*?)```");
    private static final Set<String> FACE = new TreeSet<>(), NAMES = new TreeSet<>(), CONSTANTS = new TreeSet<>();
    private static final String[] FORBIDDEN = {
        "\\bimport\\b", "\\bpackage\\b", "->", "::", "\\btry\\b", "\\bcatch\\b", "\\bfinally\\b", "\\bthrow",
        "\\bsynchronized\\b", "\\bassert\\b", "\\bObject\\b", "\\binstanceof\\b", "Exact\\(", "\\bdouble\\b",
        "\\bfloat\\b", "\\bvar\\b", "\\bSystem\\.(?!arraycopy)", "\\bprotected\\b", "while \\(true\\)", "[^\\x00-\\x7e]",
    };
    private static int wrong;

    private LanguageTest() {
    }

    public static void main(String[] args) throws Exception {
        readFace(Files.readString(Path.of("../shared/DOC.md")));
        face();
        constants();
        members();
        for (Class<?> inside : TailorTape.class.getDeclaredClasses()) {
            nested(inside);
        }
        String source = Files.readString(Path.of("src/main/java/TailorTape.java"));
        text(source);
        depth(source);
        System.out.println(wrong == 0 ? "LanguageTest: all rules are kept" : wrong + " rules are not kept");
        if (wrong != 0) {
            System.exit(1);
        }
    }

    private static void rule(boolean isKept, String what) {
        if (!isKept) {
            wrong++;
            System.out.println(what);
        }
    }

    private static void readFace(String document) {
        Matcher block = FACE_BLOCK.matcher(document);
        String text = block.find() ? block.group(1) : "";
        Matcher call = Pattern.compile("public int (\\w+)\\((.*?)\\);").matcher(text);
        while (call.find()) {
            NAMES.add(call.group(1));
            FACE.add(call.group(1) + "(" + call.group(2).replaceAll("(int|long) \\w+", "$1").replace(" ", "") + ")");
        }
        Matcher constants = Pattern.compile("public static final int (.*?);").matcher(text);
        while (constants.find()) {
            CONSTANTS.addAll(Arrays.asList(constants.group(1).replace(" ", "").split(",")));
        }
        rule(FACE.size() == 33 && NAMES.size() == 33, "the document's calls are " + FACE);
        rule(CONSTANTS.size() == 8, "the document's constants are " + CONSTANTS);
        rule(text.contains("public TailorTape();"), "the document's constructor can't be seen");
    }

    private static void face() {
        Set<String> got = new TreeSet<>();
        for (Method m : TailorTape.class.getDeclaredMethods()) {
            if (Modifier.isPublic(m.getModifiers())) {
                rule(m.getReturnType() == int.class && !Modifier.isStatic(m.getModifiers()), m + " is not as told");
                String types = Arrays.toString(m.getParameterTypes());
                got.add(m.getName() + "(" + types.substring(1, types.length() - 1).replace(" ", "") + ")");
            }
        }
        rule(got.equals(FACE), "the face is " + got);
    }

    private static void constants() throws IllegalAccessException {
        Set<String> got = new TreeSet<>();
        for (Field f : TailorTape.class.getFields()) {
            rule(f.getType() == int.class && Modifier.isStatic(f.getModifiers()) && Modifier.isFinal(f.getModifiers()),
                    f + " is no constant");
            got.add(f.getName() + "=" + f.getInt(null));
        }
        rule(got.equals(CONSTANTS), "the constants are " + got);
    }

    private static void members() {
        rule(Modifier.isFinal(TailorTape.class.getModifiers()), "the class is not final");
        Constructor<?>[] constructors = TailorTape.class.getDeclaredConstructors();
        rule(constructors.length == 1 && Modifier.isPublic(constructors[0].getModifiers())
                && constructors[0].getParameterCount() == 0, "the constructor is not as told");
        for (Field f : TailorTape.class.getDeclaredFields()) {
            rule(Modifier.isPublic(f.getModifiers()) || Modifier.isPrivate(f.getModifiers()), f + " can be seen");
        }
        methods(TailorTape.class);
        rule(TailorTape.class.getDeclaredClasses().length <= 11, "too many classes");
    }

    private static void methods(Class<?> of) {
        for (Method m : of.getDeclaredMethods()) {
            boolean isFace = of == TailorTape.class && Modifier.isPublic(m.getModifiers());
            rule(isFace || of != TailorTape.class || Modifier.isPrivate(m.getModifiers()), m + " can be seen");
            rule(isFace || !NAMES.contains(m.getName()), m + " bears a public name");
            rule(m.getParameterCount() <= 7, m + " takes too much");
        }
    }

    private static void nested(Class<?> inside) {
        rule(Modifier.isStatic(inside.getModifiers()), inside + " is not static");
        int fields = 0;
        for (Field f : inside.getDeclaredFields()) {
            boolean isStatic = Modifier.isStatic(f.getModifiers());
            rule(!isStatic || Modifier.isFinal(f.getModifiers()), f + " is static and not final");
            fields += isStatic ? 0 : 1;
        }
        rule(fields <= 20, inside + " has too many fields");
        methods(inside);
    }

    private static void text(String source) {
        String code = source.replaceAll("(?s)/\\*.*?\\*/", " ").replaceAll("//[^\n]*", " ");
        for (String forbidden : FORBIDDEN) {
            Matcher found = Pattern.compile(forbidden).matcher(code);
            rule(!found.find(), "the text has " + forbidden);
        }
        int line = 0;
        int from = 0;
        for (String s : source.split("\n")) {
            line++;
            if (s.matches("( {4}| {8})(public|private|static|int|boolean|void|long)\\b.*\\) \\{")) {
                from = line;
            }
            rule(!s.matches("( {4}| {8})\\}") || line - from <= 62 || from == 0, "a long method ends in line " + line);
            from = s.matches("( {4}| {8})\\}") ? 0 : from;
        }
    }

    /** By the text alone: who calls whom. Methods of one name count as one, so this sees rather too much. */
    private static void depth(String source) {
        Map<String, Set<String>> calls = new TreeMap<>();
        String method = "";
        for (String s : source.split("\n")) {
            Matcher head = Pattern.compile("^(?: {4}| {8})(?:\\w+ )*\\w+(?:\\[\\])? (\\w+)\\(.*").matcher(s);
            if (head.matches() && !s.contains("=") && !s.trim().startsWith("return")) {
                method = head.group(1);
                calls.putIfAbsent(method, new TreeSet<>());
                continue;
            }
            Matcher call = Pattern.compile("\\b(\\w+)\\(").matcher(s);
            while (call.find() && !method.isEmpty()) {
                calls.get(method).add(call.group(1));
            }
        }
        calls.values().forEach(called -> called.removeAll(Set.of("if", "for", "while", "switch")));
        rule(calls.containsKey("wear") && calls.containsKey("readNumber"), "the calls can't be seen");
        for (String name : calls.keySet()) {
            int levels = levels(calls, name, 0);
            rule(levels <= 8, name + " goes " + levels + " deep");
        }
    }

    private static int levels(Map<String, Set<String>> calls, String name, int above) {
        if (above > 30 || !calls.containsKey(name)) {
            return 1;
        }
        int below = 0;
        for (String called : calls.get(name)) {
            below = Math.max(below, levels(calls, called, above + 1));
        }
        return 1 + below;
    }
}
