import java.nio.file.Files;
import java.nio.file.Path;
import java.util.regex.Matcher;
import java.util.regex.Pattern;

/** Runs the Java that README.md shows, line by line: each call answers the number that stands behind it. */
public final class ReadmeTest {
    private static final Pattern BLOCK = Pattern.compile("(?s)```java\n(.*?)```");
    private static final Pattern CALL = Pattern.compile("x\\.(\\w+)\\((.*?)\\);\\s*// (-?\\d+)(:.*)?");
    private static final Pattern TYPED = Pattern.compile("for \\(char c : \"(.*)\"\\.toCharArray\\(\\)\\) x\\.type\\(c\\);");
    private static final Due DUE = new Due();
    private static TailorTape x;

    private ReadmeTest() {
    }

    public static void main(String[] args) throws Exception {
        String text = Files.readString(Path.of("README.md"));
        Matcher block = BLOCK.matcher(text);
        int calls = 0;
        while (block.find()) {
            for (String line : block.group(1).split("\n")) {
                calls += line.isBlank() ? 0 : run(line.trim());
            }
        }
        DUE.is("README.md shows calls", calls > 0 ? 1 : 0, 1);
        namesEachCall(text);
        DUE.end("ReadmeTest");
    }

    /** How many calls with an answer the line shows. */
    private static int run(String line) {
        Matcher call = CALL.matcher(line);
        Matcher typed = TYPED.matcher(line);
        if (line.equals("TailorTape x = new TailorTape();")) {
            x = new TailorTape();
        } else if (typed.matches()) {
            typed.group(1).chars().forEach(x::type);
        } else if (call.matches()) {
            DUE.is(line, Edges.call(x, call.group(1), numbers(call.group(2))), Long.parseLong(call.group(3)));
            return 1;
        } else {
            DUE.is("README.md shows what can't be run: " + line, 1, 0);
        }
        return 0;
    }

    private static long[] numbers(String list) {
        String[] parts = list.isEmpty() ? new String[0] : list.split(", ");
        long[] numbers = new long[parts.length];
        for (int k = 0; k < parts.length; k++) {
            numbers[k] = parts[k].equals("TailorTape.NONE") ? TailorTape.NONE : Long.parseLong(parts[k]);
        }
        return numbers;
    }

    /** How to use the class is not told, as long as a call of it is not. */
    private static void namesEachCall(String text) {
        for (java.lang.reflect.Method m : TailorTape.class.getDeclaredMethods()) {
            if (java.lang.reflect.Modifier.isPublic(m.getModifiers())) {
                boolean isTold = Pattern.compile("`" + m.getName() + "\\(").matcher(text).find();
                DUE.is("README.md tells of " + m.getName(), isTold ? 1 : 0, 1);
            }
        }
    }
}
