import java.nio.file.Files;
import java.nio.file.Path;
import java.util.List;
import java.util.Set;
import java.util.TreeSet;
import java.util.regex.Matcher;
import java.util.regex.Pattern;

/** What of ../shared/LANGUAGE.md can be seen in the class's text by its words alone. */
public final class LanguageTest {
    private static final Checks c = new Checks("LanguageTest");

    public static void main(String[] args) throws Exception {
        Path file = Path.of(System.getProperty("project", "."), "src/main/java/ThatchLane.java");
        String whole = Files.readString(file);
        String code = whole.replaceAll("(?s)/\\*.*?\\*/", " ").replaceAll("//[^\n]*", " ");
        forbidden(code);
        texts(code);
        library(code);
        divisors(code);
        lengths(code);
        c.end();
    }

    private static void forbidden(String code) {
        List<String> words = List.of("package", "import", "synchronized", "assert", "finally", "throw", "throws", "try",
            "catch", "native", "volatile", "transient", "strictfp", "protected", "goto", "var", "yield", "instanceof",
            "System", "Thread", "Object", "hashCode", "equals", "toString");
        for (String word : words) {
            c.holds("no " + word, !Pattern.compile("\\b" + word + "\\b").matcher(code).find());
        }
        for (String sign : List.of("->", "::", "@", "Exact(")) {
            c.holds("no " + sign, !code.contains(sign));
        }
    }

    /** Constant texts hold signs 1 to 127, and none is joined by +. */
    private static void texts(String code) {
        for (int i = 0; i < code.length(); i++) {
            if (code.charAt(i) > 126) {
                c.due("a sign of the code at " + i, code.charAt(i), 126);
            }
        }
        c.holds("no text is joined by +", !Pattern.compile("\"\\s*\\+|\\+\\s*\"").matcher(code).find());
    }

    /** Of the library: Math, Integer and String, by what the rules list. */
    private static void library(String code) {
        Set<String> used = new TreeSet<>();
        Matcher calls = Pattern.compile("\\b(Math|Integer|Long|Arrays|List|Character|Boolean)\\.(\\w+)").matcher(code);
        while (calls.find()) {
            used.add(calls.group());
        }
        used.removeAll(Set.of("Math.min", "Math.max", "Math.abs", "Integer.bitCount"));
        c.holds("what else of the library is used: " + used, used.isEmpty());
    }

    /** A divisor is a number, or a constant that is none of 0; the one that comes from outside is tested. */
    private static void divisors(String code) {
        Matcher divisors = Pattern.compile("[/%]=?\\s*(\\w+)").matcher(code);
        while (divisors.find()) {
            String by = divisors.group(1);
            boolean sure = by.matches("[1-9][0-9]*L?") || by.equals("STEP")
                || by.equals("of") && code.contains("of < 1 ? 0 :");
            c.holds("divisor " + by, sure);
        }
    }

    private static void lengths(String code) {
        String[] lines = code.split("\n");
        int begun = -1;
        for (int i = 0; i < lines.length; i++) {
            boolean head = lines[i].matches("( {4}| {8})\\S.*\\) \\{") && !lines[i].contains(" class ");
            if (head) {
                begun = i;
            }
            if (lines[i].matches("( {4}| {8})\\}") && begun >= 0) {
                c.holds("a method of at most sixty lines ends in line " + (i + 1), i - begun <= 60);
                begun = -1;
            }
        }
    }
}
