import java.io.IOException;
import java.nio.file.Files;
import java.nio.file.Path;
import java.util.List;
import java.util.regex.Matcher;
import java.util.regex.Pattern;

/** Those rules of ../shared/LANGUAGE.md that can be read off the source. */
public final class LanguageTest {
    private static final String[] NEVER = {
        "\\bimport\\b", "\\bpackage\\b", "\\bthrow\\b", "\\bthrows\\b", "\\btry\\b", "\\bcatch\\b", "\\bfinally\\b",
        "\\bsynchronized\\b", "\\bassert\\b", "->", "::", "\\bvolatile\\b", "\\btransient\\b", "\\bnative\\b", "\\bvar\\b",
        "\\bprotected\\b", "Exact\\b", "\\bRandom\\b", "\\bThread\\b", "nanoTime", "currentTimeMillis", "\\bhashCode\\b",
        "\\btoString\\b", "\\bfloat\\b", "\\bdouble\\b", "\\bString\\b", "while\\s*\\(\\s*true", "for\\s*\\(\\s*;\\s*;", "@"
    };
    private static final Pattern LIBRARY = Pattern.compile("\\b(System|Math|Integer|Long|Arrays)\\.(\\w+)");
    private static final List<String> ALLOWED = List.of("System.arraycopy", "Math.max", "Math.min", "Math.abs",
        "Integer.bitCount");
    private static final int LONGEST_METHOD = 60;

    public static void main(String[] args) throws IOException {
        String root = System.getProperty("project.root", ".");
        String source = Files.readString(Path.of(root, "src/main/java/SparseChecks.java"));
        String bare = source.replaceAll("(?s)/\\*.*?\\*/", "").replaceAll("//[^\n]*", "");
        for (String never : NEVER) {
            Due.holds("without " + never, !Pattern.compile(never).matcher(bare).find());
        }
        Matcher calls = LIBRARY.matcher(bare);
        while (calls.find()) {
            Due.holds("in the library: " + calls.group(), ALLOWED.contains(calls.group()));
        }
        Due.holds("signs 1 to 127 alone", source.chars().allMatch(sign -> sign >= 1 && sign <= 127));
        checkStatics(bare);
        checkNew(bare);
        checkMethods(bare);
        Due.end();
    }

    private static void checkStatics(String bare) {
        for (String line : bare.split("\n")) {
            boolean field = line.matches("\\s*(public |private )?static .*[;{]") && line.contains("=");
            if (field) {
                Due.holds("final: " + line.trim(), line.contains("static final"));
            }
        }
        Due.holds("no static block", !Pattern.compile("static\\s*\\{").matcher(bare).find());
    }

    /** Everything is made in constructors, so that no call takes room. */
    private static void checkNew(String bare) {
        String method = "";
        for (String line : bare.split("\n")) {
            Matcher head = Pattern.compile("^ {4,8}(?:[a-z]+ )*(?:[A-Za-z\\[\\]]+ )?(\\w+)\\(.*\\) \\{$").matcher(line);
            if (head.find()) {
                method = head.group(1);
            }
            if (line.contains("new ")) {
                Due.holds("made in a constructor: " + line.trim(), Character.isUpperCase(method.charAt(0)));
            }
        }
    }

    private static void checkMethods(String bare) {
        String[] lines = bare.split("\n");
        for (int i = 0; i < lines.length; i++) {
            Matcher head = Pattern.compile("^( {4}| {8})\\S.*\\) \\{$").matcher(lines[i]);
            if (head.find()) {
                int end = i;
                while (!lines[end].equals(head.group(1) + "}")) {
                    end++;
                }
                Due.holds("short: " + lines[i].trim(), end - i < LONGEST_METHOD);
            }
        }
    }
}
