import java.nio.file.Files;
import java.nio.file.Path;
import java.util.regex.Matcher;
import java.util.regex.Pattern;

/** What of LANGUAGE.md can be seen from the words of the source alone. */
public final class LanguageTest {
    private static final String[] NOWHERE = {"\\b(throw|throws|try|catch|finally|synchronized|assert|volatile|transient|native)\\b",
        "\\b(protected|instanceof|var|yield|sealed|permits|strictfp)\\b", "->", "::", "@", "\\bimport\\b", "\\bpackage\\b",
        "\\b(System\\.(?!arraycopy\\b)\\w+)", "\\b\\w+Exact\\b", "\\b(equals|hashCode|toString)\\b", "\\b(Object|Thread|Random)\\b",
        "\\bstatic\\s*\\{", "\\bfor\\s*\\(\\s*;\\s*;", "\\bwhile\\s*\\(\\s*true", "\"\\s*\\+|\\+\\s*\""};

    public static void main(String[] args) throws Exception {
        Path file = Path.of(System.getProperty("source", "src/main/java/PrisonShops.java"));
        String source = Files.readString(file);
        String code = withoutTexts(source);
        for (String words : NOWHERE) {
            Matcher m = Pattern.compile(words).matcher(code);
            while (m.find()) {
                Due.isTrue("\"" + m.group() + "\" in line " + lineOf(code, m.start()), false);
            }
        }
        for (int i = 0; i < source.length(); i++) {
            Due.isTrue("sign " + (int) source.charAt(i), source.charAt(i) < 128);
        }
        methodsAreShort(code);
        onlyStaticMethodsCallThemselves(code);
        Due.end();
    }

    private static int lineOf(String code, int place) {
        return (int) code.substring(0, place).chars().filter(c -> c == '\n').count() + 1;
    }

    /** Comments and what stands in texts and signs go, the lines stay. */
    private static String withoutTexts(String source) {
        String code = source.replaceAll("'(\\\\.|[^'\\\\])'", "0");
        code = code.replaceAll("(?m)//.*$", "");
        Matcher m = Pattern.compile("(?s)/\\*.*?\\*/").matcher(code);
        StringBuilder out = new StringBuilder();
        while (m.find()) {
            m.appendReplacement(out, m.group().replaceAll("[^\\n]", ""));
        }
        m.appendTail(out);
        return out.toString().replaceAll("\"[^\"\\n]*\"", "\"\"");
    }

    private static void methodsAreShort(String code) {
        String[] lines = code.split("\n");
        int start = -1;
        String end = "";
        for (int i = 0; i < lines.length; i++) {
            Matcher m = Pattern.compile("^( {4}| {8})[\\w<>\\[\\], ]+\\(([^()]*)\\) \\{$").matcher(lines[i]);
            if (m.matches()) {
                start = i;
                end = m.group(1) + "}";
                Due.isTrue("seven parameters in line " + (i + 1), m.group(2).split(",").length <= 7);
            } else if (start >= 0 && lines[i].equals(end)) {
                Due.isTrue("the method in line " + (start + 1) + " is short", i - start < 60);
                start = -1;
            }
        }
    }

    /** Rule 8: a private static method may call itself, other private methods only one another. */
    private static void onlyStaticMethodsCallThemselves(String code) {
        String[] lines = code.split("\n");
        String name = "";
        String end = "";
        int methods = 0;
        for (int i = 0; i < lines.length; i++) {
            Matcher m = Pattern.compile("^( {4}| {8})([\\w\\[\\] ]+ )?(\\w+)\\([^()]*\\) \\{$").matcher(lines[i]);
            if (m.matches()) {
                methods++;
                end = m.group(1) + "}";
                name = m.group(2) != null && m.group(2).contains("static ") ? "" : m.group(3);
            } else if (lines[i].equals(end)) {
                name = "";
            } else if (!name.isEmpty()) {
                boolean itself = Pattern.compile("(?<![\\w.])(this\\.)?" + name + "\\(").matcher(lines[i]).find();
                Due.isTrue(name + " calls itself in line " + (i + 1), !itself);
            }
        }
        Due.isTrue("methods were found", methods > 100);
    }
}
