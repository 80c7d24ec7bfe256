import java.io.IOException;
import java.nio.file.Files;
import java.nio.file.Path;
import java.util.regex.Matcher;
import java.util.regex.Pattern;

/** Those rules of LANGUAGE.md that a look at the source can tell. */
public final class LanguageTest {
    private static final String[] BANNED = {
        "\\bthrows?\\b", "\\btry\\b", "\\bcatch\\b", "\\bfinally\\b", "\\bsynchronized\\b", "\\bassert\\b", "\\bvolatile\\b",
        "\\bimport\\b", "\\bpackage\\b", "\\bnative\\b", "\\bvar\\b", "->", "::", "\\bSystem\\.(?!arraycopy\\b)",
        "\\bObject\\b", "\\bThread\\b", "\\bRandom\\b", "\\bhashCode\\b", "\\btoString\\b", "Exact\\b", "\\bprotected\\b",
        "@", "\\bstatic\\s*\\{", "\\[\\]\\s*\\[\\]\\s*\\["};

    public static void main(String[] args) throws IOException {
        String source = Files.readString(Path.of(System.getProperty("lieslides.source", "src/main/java/LieSlides.java")));
        String code = source.replaceAll("(?s)/\\*.*?\\*/", "").replaceAll("//[^\n]*", "");
        for (String banned : BANNED) {
            Matcher m = Pattern.compile(banned).matcher(code);
            Check.due("finding " + banned, m.find() ? 1 : 0, 0);
        }
        Check.due("all signs are 10 or 32 to 126", source.matches("[\n -~]*") ? 1 : 0, 1);
        publics(code);
        lengths(code);
        library(code);
        divisors(code);
        newObjects(code);
        Check.end();
    }

    private static void publics(String code) {
        Matcher m = Pattern.compile("\\bpublic\\b").matcher(code);
        int publics = 0;
        while (m.find()) {
            publics++;
        }
        // the class, the constants in one line, the constructor, and the calls
        Check.due("how often public is written", publics, 3 + 24);
    }

    private static void everyMatch(String what, String code, String pattern, String allowed) {
        Matcher m = Pattern.compile(pattern).matcher(code);
        while (m.find()) {
            Check.due(what + ": " + m.group().trim(), m.group(1).matches(allowed) ? 1 : 0, 1);
        }
    }

    /** Rule 4, as far as the class uses it. */
    private static void library(String code) {
        String own = "LieSlides|Rows|Field|Reader|History|Foresight|Kinds|Bodies";
        everyMatch("a name of the class's own, or of the library", code, "\\b([A-Z][a-z]\\w*)", own + "|String|Integer|Math|System");
        everyMatch("a call that the rules list", code, "\\b((?:Integer|Math|System)\\.\\w+)",
            "Integer\\.bitCount|Math\\.(?:min|max)|System\\.arraycopy");
    }

    /** Rule 7: no divisor can be 0, since each is a constant. */
    private static void divisors(String code) {
        everyMatch("a constant divisor", code, "[/%]=?\\s*([\\w.]+|\\([^)]*\\)|\\S)", "[1-9][0-9]*|[A-Z][A-Z_]*|\\(MOST_CLAIM \\+ 1\\)");
    }

    /** Rule 12: objects and arrays are made with the object alone, as its fields, so that no number of calls fills the room. */
    private static void newObjects(String code) {
        everyMatch("made with the object", code, "(?m)^(.*\\bnew\\b.*)$", " +(?:private )?final [\\w\\[\\]]+ \\w+ = (?:\\{?new [\\w\\[\\]* ()]+,? ?)+\\}?;");
    }

    /** A method begins with a line that ends in ") {" and is no statement, and ends with its brace. */
    private static void lengths(String code) {
        String[] lines = code.split("\n");
        for (int at = 0; at < lines.length; at++) {
            if (lines[at].matches(" {4,8}(?!if|for|while|switch|\\}|return|else)[a-z].*\\) \\{")) {
                String indent = lines[at].replaceAll("\\S.*", "");
                int end = at;
                while (end < lines.length && !lines[end].equals(indent + "}")) {
                    end++;
                }
                Check.due("short enough: " + lines[at].trim(), end - at <= 60 ? 1 : 0, 1);
            }
        }
    }
}
