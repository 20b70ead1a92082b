import java.nio.file.Files;
import java.nio.file.Path;
import java.util.ArrayList;
import java.util.List;
import java.util.Set;
import java.util.TreeSet;
import java.util.regex.Matcher;
import java.util.regex.Pattern;

/** Rules of LANGUAGE.md that can be seen in the source or in the class; run at the root. */
public final class LanguageTest {
    private static final String[] FORBIDDEN = {"throw", "throws", "try", "catch", "finally",
        "synchronized", "assert", "->", "::", "Exact(", "System.out", "Math.random", "hashCode",
        "toString", "protected", "volatile", "native", "MAX_VALUE", "MIN_VALUE"};
    private static final Set<String> LIBRARY = Set.of("System.arraycopy", "Arrays.copyOf",
            "Arrays.fill", "Integer.bitCount", "Math.max", "Math.min");
    private static int wrong = 0;

    private static void fail(String what) {
        wrong++;
        System.out.println(what);
    }

    private static String withoutCommentsAndTexts(String source) {
        return source.replaceAll("(?s)/\\*.*?\\*/", "").replaceAll("//[^\n]*", "")
                .replaceAll("\"[^\"\n]*\"", "\"\"").replaceAll("'[^'\n]'", "' '");
    }

    private static void words(String code) {
        for (String word : FORBIDDEN) {
            boolean letters = Character.isLetter(word.charAt(0)) && !word.contains("(");
            Pattern p = Pattern.compile(letters ? "\\b" + Pattern.quote(word) + "\\b"
                    : Pattern.quote(word));
            if (p.matcher(code).find()) {
                fail("rules 1 to 6: " + word);
            }
        }
        Matcher calls = Pattern.compile("\\b(System|Arrays|Integer|Long|Math)\\.(\\w+)").matcher(code);
        while (calls.find()) {
            if (!LIBRARY.contains(calls.group())) {
                fail("rule 4: " + calls.group());
            }
        }
        Matcher imports = Pattern.compile("import ([^;]+);").matcher(code);
        while (imports.find()) {
            if (!imports.group(1).equals("java.util.Arrays")) {
                fail("rule 4: import " + imports.group(1));
            }
        }
    }

    /** Name, parameters and lines of each method, by its braces. */
    private static void methods(String code) {
        Set<String> face = new TreeSet<>();
        for (java.lang.reflect.Method m : ScratchLadder.class.getDeclaredMethods()) {
            if (java.lang.reflect.Modifier.isPublic(m.getModifiers())) {
                face.add(m.getName());
            } else if (!java.lang.reflect.Modifier.isPrivate(m.getModifiers())) {
                fail("rule 1: " + m.getName() + " can be seen from outside");
            }
        }
        if (face.size() != 43 - 1) {
            fail("rule 1: there are " + face.size() + " public methods");
        }
        Matcher m = Pattern.compile("\n( +)((?:public |private |static )*)([\\w\\[\\]]+ )?(\\w+)"
                + "\\(([^()]*)\\) \\{").matcher(code);
        while (m.find()) {
            String name = m.group(4);
            if (m.group(3) == null || List.of("else ", "return ", "new ").contains(m.group(3))) {
                continue;
            }
            if (!m.group(2).contains("public") && face.contains(name)) {
                fail("rule 1: a method of an inner class is called " + name);
            }
            if (m.group(5).split(",").length > 7) {
                fail("rule 11: parameters of " + name);
            }
            int end = code.indexOf("\n" + m.group(1) + "}", m.end());
            if (code.substring(m.end(), end).lines().count() > 60) {
                fail("rule 11: lines of " + name);
            }
        }
    }

    private static void fields() {
        List<Class<?>> all = new ArrayList<>(List.of(ScratchLadder.class.getDeclaredClasses()));
        all.add(ScratchLadder.class);
        if (all.size() > 12) {
            fail("rule 11: " + all.size() + " classes");
        }
        for (Class<?> c : all) {
            int fields = 0;
            for (java.lang.reflect.Field f : c.getDeclaredFields()) {
                int how = f.getModifiers();
                boolean constant = java.lang.reflect.Modifier.isStatic(how);
                fields += constant ? 0 : 1;
                if (constant && !(java.lang.reflect.Modifier.isFinal(how)
                        && f.getType().isPrimitive())) {
                    fail("rule 5: " + f);
                }
                if (c == ScratchLadder.class && !f.getName().equals("NONE")
                        && !java.lang.reflect.Modifier.isPrivate(how)) {
                    fail("rule 1: " + f);
                }
            }
            if (fields > 20) {
                fail("rule 11: " + c + " has " + fields + " fields");
            }
            if (c != ScratchLadder.class && !java.lang.reflect.Modifier.isStatic(c.getModifiers())) {
                fail("rule 2: " + c);
            }
        }
    }

    public static void main(String[] args) throws Exception {
        String source = Files.readString(Path.of("src/main/java/ScratchLadder.java"));
        for (int i = 0; i < source.length(); i++) {
            if (source.charAt(i) > 126) {
                fail("a sign above 126 at " + i);
            }
        }
        String code = withoutCommentsAndTexts(source);
        words(code);
        methods(code);
        fields();
        System.out.println(wrong == 0 ? "the language is kept to" : wrong + " rules are broken");
        if (wrong > 0) {
            System.exit(1);
        }
    }
}
