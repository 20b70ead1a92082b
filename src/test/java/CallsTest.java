import java.io.PrintWriter;
import java.io.StringWriter;
import java.net.URISyntaxException;
import java.nio.file.Files;
import java.nio.file.Path;
import java.util.ArrayList;
import java.util.HashMap;
import java.util.List;
import java.util.Map;
import java.util.Set;
import java.util.TreeMap;
import java.util.TreeSet;
import java.util.regex.Matcher;
import java.util.regex.Pattern;
import java.util.spi.ToolProvider;

/**
 * Rules of LANGUAGE.md that are seen best in the compiled class: how deep calls go, which methods
 * call themselves, what is called of the library, and what may divide, cast or throw.
 */
public final class CallsTest {
    private static final Pattern METHOD = Pattern.compile("  (?:\\S.* )?([\\w$]+)\\([^)]*\\);");
    private static final Pattern INVOKE =
            Pattern.compile("invoke\\w+ +#\\d+.*// (?:Interface)?Method ([^:]+):.*");
    private static final Pattern NUMBER =
            Pattern.compile("(?:iconst_[1-5]|[bs]ipush +-?[1-9]\\d*|ldc +#\\d+ +// int -?[1-9]\\d*)");
    private static final Set<String> LIBRARY = Set.of("java/lang/Object.<init>",
            "java/lang/Integer.bitCount", "java/lang/Math.max", "java/lang/Math.min",
            "java/lang/String.charAt", "java/lang/String.length", "java/lang/System.arraycopy",
            "java/util/Arrays.copyOf", "java/util/Arrays.fill");
    /** Methods that divide by what is no constant; each looks at its divisor itself. */
    private static final Set<String> DIVIDERS =
            Set.of("ScratchLadder$Lineup.byGrooves", "ScratchLadder$Question.join");
    /** Rings of methods that call one another; each is bounded by an argument or a limit. */
    private static final Set<String> RECURSIVE = Set.of(
            "readBoth readBracketedTest readPlain readTest",
            "readBracketedSum readPart readSum readTerm", "areEnough goodPair isGood");
    private static final int DEEPEST = 8;

    private static final Map<String, Set<String>> calls = new TreeMap<>();
    private static final Map<String, Set<String>> reached = new HashMap<>();
    private static int wrong = 0;

    private static void fail(String what) {
        wrong++;
        System.out.println(what);
    }

    private static String compiled(Path file) {
        StringWriter out = new StringWriter();
        ToolProvider.findFirst("javap").orElseThrow().run(new PrintWriter(out),
                new PrintWriter(out), "-p", "-c", file.toString());
        return out.toString();
    }

    private static void read(String owner, String listing) {
        String method = "";
        String before = "";
        for (String line : listing.split("\r?\n")) {
            Matcher head = METHOD.matcher(line);
            if (head.matches()) {
                String name = head.group(1);
                method = owner + "." + (name.equals(owner) ? "<init>" : name);
                calls.putIfAbsent(method, new TreeSet<>());
            } else if (line.matches(" +\\d+: .*") && !method.isEmpty()) {
                String step = line.replaceFirst(" +\\d+: ", "");
                take(owner, method, step, before);
                before = step;
            }
        }
    }

    private static void take(String owner, String method, String step, String before) {
        Matcher invoke = INVOKE.matcher(step);
        if (invoke.matches()) {
            String called = invoke.group(1).replace("\"", "");
            calls.get(method).add(called.contains(".") ? called : owner + "." + called);
        }
        if (step.matches("(checkcast|athrow|monitorenter|invokedynamic).*")) {
            fail("rules 2, 6: " + method + ": " + step);
        }
        if (step.matches("[il](div|rem)") && !NUMBER.matcher(before.strip()).matches()
                && !DIVIDERS.contains(method)) {
            fail("rule 7: " + method + " divides by what is no constant");
        }
    }

    private static Set<String> reachedFrom(String method) {
        Set<String> all = reached.get(method);
        if (all == null) {
            all = new TreeSet<>();
            List<String> open = new ArrayList<>(calls.getOrDefault(method, Set.of()));
            for (int i = 0; i < open.size(); i++) {
                if (all.add(open.get(i))) {
                    open.addAll(calls.getOrDefault(open.get(i), Set.of()));
                }
            }
            reached.put(method, all);
        }
        return all;
    }

    private static boolean areOneRing(String a, String b) {
        return a.equals(b) || reachedFrom(a).contains(b) && reachedFrom(b).contains(a);
    }

    /** Methods of one ring count as one: what they do to one another is recursion. */
    private static int depth(String method) {
        int deepest = 0;
        for (String member : calls.keySet()) {
            if (areOneRing(method, member)) {
                for (String called : calls.get(member)) {
                    if (!areOneRing(method, called)) {
                        deepest = Math.max(deepest, calls.containsKey(called) ? depth(called) : 1);
                    }
                }
            }
        }
        return deepest + 1;
    }

    private static void rings() {
        Set<String> found = new TreeSet<>();
        for (String method : calls.keySet()) {
            if (reachedFrom(method).contains(method)) {
                StringBuilder ring = new StringBuilder();
                for (String other : calls.keySet()) {
                    if (areOneRing(method, other)) {
                        ring.append(ring.length() > 0 ? " " : "");
                        ring.append(other.substring(other.indexOf('.') + 1));
                    }
                }
                found.add(ring.toString());
            }
        }
        if (!found.equals(RECURSIVE)) {
            fail("rule 8: methods that call one another are " + found);
        }
    }

    public static void main(String[] args) throws java.io.IOException, URISyntaxException {
        Path here = Path.of(ScratchLadder.class.getProtectionDomain().getCodeSource().getLocation()
                .toURI());
        try (var files = Files.list(here)) {
            for (Path file : files.sorted().toList()) {
                String name = file.getFileName().toString();
                if (name.matches("ScratchLadder(\\$\\w+)?\\.class")) {
                    read(name.replace(".class", ""), compiled(file));
                }
            }
        }
        for (String method : calls.keySet()) {
            for (String called : calls.get(method)) {
                if (!calls.containsKey(called) && !LIBRARY.contains(called)) {
                    fail("rule 4: " + method + " calls " + called);
                }
            }
            if (depth(method) > DEEPEST) {
                fail("rule 11: " + method + " goes " + depth(method) + " deep");
            }
        }
        rings();
        if (calls.size() < 43) {
            fail("there are only " + calls.size() + " methods");
        }
        System.out.println(calls.size() + " methods, " + wrong + " things wrong in their calls");
        if (wrong > 0) {
            System.exit(1);
        }
    }
}
