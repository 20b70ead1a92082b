import java.io.IOException;
import java.lang.reflect.Method;
import java.lang.reflect.Modifier;
import java.nio.charset.StandardCharsets;
import java.nio.file.Files;
import java.nio.file.Path;
import java.util.ArrayList;
import java.util.HashMap;
import java.util.List;
import java.util.Map;
import java.util.regex.Matcher;
import java.util.regex.Pattern;

/** README.md tells no answer that the class does not give, and leaves no call out. */
public final class ReadmeTest {
    private static final Pattern CALL =
            Pattern.compile("(?:int (\\w+) = )?ladder\\.(\\w+)\\((.*)\\); +// (-?\\d+): .*");
    private static int asked = 0;
    private static int wrong = 0;

    private static void fail(String what) {
        wrong++;
        System.out.println(what);
    }

    private static String between(String text, String from, String to) {
        int start = text.indexOf(from);
        int end = start < 0 ? -1 : text.indexOf(to, start + from.length());
        if (end < 0) {
            fail("README.md has nothing between " + from.strip() + " and " + to.strip());
            return "";
        }
        return text.substring(start + from.length(), end);
    }

    private static Map<String, Method> face() {
        Map<String, Method> face = new HashMap<>();
        for (Method method : ScratchLadder.class.getDeclaredMethods()) {
            if (Modifier.isPublic(method.getModifiers())) {
                face.put(method.getName(), method);
            }
        }
        return face;
    }

    private static Object value(String argument, Map<String, Integer> kept) {
        Integer named = kept.get(argument);
        return named != null ? named : Integer.decode(argument);
    }

    /** Each line of the example that is a call has its answer behind it. */
    private static void example(String readme) throws ReflectiveOperationException {
        ScratchLadder ladder = new ScratchLadder();
        Map<String, Integer> kept = new HashMap<>();
        for (String line : between(readme, "```java\n", "```").split("\n")) {
            Matcher call = CALL.matcher(line);
            if (!call.matches()) {
                if (!line.startsWith("//") && !line.contains("new ScratchLadder()")) {
                    fail("no answer is told: " + line);
                }
                continue;
            }
            List<Object> arguments = new ArrayList<>();
            for (String argument : call.group(3).isEmpty() ? new String[0]
                    : call.group(3).split(", ")) {
                arguments.add(value(argument, kept));
            }
            int answer = (int) face().get(call.group(2)).invoke(ladder, arguments.toArray());
            asked++;
            if (answer != Integer.parseInt(call.group(4))) {
                fail(line + "\n  answered " + answer);
            }
            if (call.group(1) != null) {
                kept.put(call.group(1), answer);
            }
        }
    }

    private static void law(String readme) {
        ScratchLadder ladder = new ScratchLadder();
        String law = between(readme, "such as\n\n", "\n\n").replaceAll("\\s+", " ").strip();
        byte[] bytes = (law + " ".repeat(20)).getBytes(StandardCharsets.ISO_8859_1);
        for (int at = 0; at + 20 <= bytes.length; at += 20) {
            int[] fours = new int[5];
            for (int i = 0; i < 20; i++) {
                fours[i / 4] = fours[i / 4] << 8 | bytes[at + i] & 255;
            }
            ladder.feed(fours[0], fours[1], fours[2], fours[3], fours[4]);
        }
        asked++;
        if (ladder.text() != 0) {
            fail("the law can't be read at " + ladder.fault() + ": " + law);
        }
    }

    private static void everyCall(String readme) {
        String table = between(readme, "| for | there are |", "A law is");
        for (String name : face().keySet()) {
            asked++;
            if (!table.contains("`" + name + "`")) {
                fail("README.md does not name " + name);
            }
        }
    }

    private static void everyTest(String readme) throws IOException {
        try (var files = Files.list(Path.of("src/test/java"))) {
            for (Path file : files.toList()) {
                String name = file.getFileName().toString().replace(".java", "");
                asked++;
                if (!readme.contains("`" + name + "`") && !readme.contains("`" + name + ".")) {
                    fail("README.md does not name " + name);
                }
            }
        }
    }

    public static void main(String[] args) throws IOException, ReflectiveOperationException {
        String readme = Files.readString(Path.of("README.md"));
        example(readme);
        law(readme);
        everyCall(readme);
        everyTest(readme);
        System.out.println(asked + " things that README.md tells, " + wrong + " of them wrong");
        if (wrong > 0) {
            System.exit(1);
        }
    }
}
