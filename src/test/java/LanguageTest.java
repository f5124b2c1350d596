import java.io.IOException;
import java.nio.file.Files;
import java.nio.file.Path;
import java.util.regex.Matcher;
import java.util.regex.Pattern;

/** The rules of LANGUAGE.md that can be seen in the words of the source; run from the project's root. */
public final class LanguageTest {
    private static final String[] FORBIDDEN = {"throw", "throws", "try", "catch", "finally", "synchronized", "assert",
        "volatile", "transient", "native", "strictfp", "protected", "var", "Object", "Thread", "Random", "\\w+Exact",
        "System\\.(?!arraycopy)\\w+", "Integer\\.[A-Z_]+", "Math\\.(?!max|min|abs)\\w+", "equals", "hashCode", "toString"};

    private static String withoutCommentsAndTexts(String source) {
        return source.replaceAll("(?s)/\\*.*?\\*/", " ").replaceAll("//[^\n]*", " ")
            .replaceAll("'(\\\\.|[^'\\\\])'", "0").replaceAll("\"(\\\\.|[^\"\\\\])*\"", "0");
    }

    private static int count(String pattern, String in) {
        Matcher m = Pattern.compile(pattern).matcher(in);
        int many = 0;
        while (m.find()) {
            many++;
        }
        return many;
    }

    /** Methods' lengths by the braces, the source being indented by four. */
    private static void lengths(String source) {
        String[] lines = source.split("\n");
        for (int i = 0; i < lines.length; i++) {
            Matcher m = Pattern.compile("^( {4}| {8})\\w[\\w\\[\\]<> ]*\\(.*\\) \\{$").matcher(lines[i]);
            if (!m.find() || lines[i].matches("^ +(if|for|while|switch|do|else)\\b.*")) {
                continue;
            }
            int end = i;
            while (end < lines.length && !lines[end].equals(m.group(1) + "}")) {
                end++;
            }
            Checks.holds("short enough: " + lines[i].trim(), end - i < 60);
            Checks.holds("at most seven parameters: " + lines[i].trim(), count(",", lines[i]) < 7);
        }
    }

    public static void main(String[] args) throws IOException {
        String source = Files.readString(Path.of("src/main/java/IcicleRings.java"));
        for (int i = 0; i < source.length(); i++) {
            if (source.charAt(i) > 126) {
                Checks.holds("sign at " + i + " is plain", false);
            }
        }
        String code = withoutCommentsAndTexts(source);
        for (String word : FORBIDDEN) {
            Checks.due("'" + word + "' in the source", count("\\b" + word + "\\b", code), 0);
        }
        for (String sign : new String[] {"->", "::", "@"}) {
            Checks.due("'" + sign + "' in the source", count(Pattern.quote(sign), code), 0);
        }
        Checks.due("package lines", count("(?m)^package\\b", code), 0);
        Checks.due("imports but Arrays, ArrayList, List", count("import (?!java\\.util\\.(Arrays|ArrayList|List);)", code), 0);
        Checks.due("static fields that aren't final", count("static (?!final|class|\\w+(\\[\\])? \\w+\\()", code), 0);
        Checks.due("static final arrays of other types", count("static final (?!int|long|boolean|char|String|byte|class)", code), 0);
        Checks.holds("at most twelve classes", count("\\b(class|enum|record|interface) \\w+", code) <= 12);
        Checks.due("public methods are all of the face", count("(?m)^ {4}public int \\w+\\(", code), 42);
        lengths(source);
        Checks.end();
    }
}
