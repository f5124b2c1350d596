import java.io.IOException;
import java.lang.reflect.Method;
import java.nio.file.Files;
import java.nio.file.Path;
import java.util.Set;
import java.util.TreeSet;
import java.util.regex.Matcher;
import java.util.regex.Pattern;

/**
 * README.md tells the truth: every call in its examples answers the number that stands behind it, it names every call
 * of the face with its parameters, and every test. Run from the project's root.
 */
public final class ReadmeTest {
    private static final Pattern BLOCK = Pattern.compile("(?s)```java\n(.*?)```");
    private static final Pattern MAKES = Pattern.compile("IcicleRings x = new IcicleRings\\(\\);");
    private static final Pattern CALL = Pattern.compile("x\\.(\\w+)\\(([^)]*)\\); +// (-?\\d+)(:.*)?");

    private static IcicleRings x = null;

    private static Method methodOf(String name) {
        for (Method m : IcicleRings.class.getMethods()) {
            if (m.getName().equals(name) && m.getDeclaringClass() == IcicleRings.class) {
                return m;
            }
        }
        return null;
    }

    private static void runLine(String line) throws ReflectiveOperationException {
        if (line.isBlank() || line.startsWith("//")) {
            return;
        }
        if (MAKES.matcher(line).lookingAt()) {
            x = new IcicleRings();
            return;
        }
        Matcher call = CALL.matcher(line);
        boolean plain = call.matches();
        Checks.holds("README's line '" + line + "' is a call with its answer", plain);
        Method method = plain ? methodOf(call.group(1)) : null;
        Checks.holds("README's line '" + line + "' is of the face, on an object", method != null && x != null);
        if (method == null || x == null) {
            return;
        }
        String[] parts = call.group(2).isEmpty() ? new String[0] : call.group(2).split(", *");
        Object[] args = new Object[parts.length];
        for (int i = 0; i < parts.length; i++) {
            boolean isLong = method.getParameterTypes()[i] == long.class;
            args[i] = isLong ? (Object) Long.decode(parts[i].replace("L", "")) : (Object) Integer.decode(parts[i]);
        }
        Checks.due("README's " + line, (Integer) method.invoke(x, args), Integer.parseInt(call.group(3)));
    }

    /** The document's own lines, without "public int" and types: "cell(cell, what)". */
    private static Set<String> faceOfDocument() throws IOException {
        Set<String> face = new TreeSet<>();
        Matcher m = Pattern.compile("public int (\\w+)\\(([^)]*)\\);").matcher(Files.readString(Path.of("../shared/DOC.md")));
        while (m.find()) {
            face.add(m.group(1) + "(" + m.group(2).replaceAll("(int|long) ", "") + ")");
        }
        return face;
    }

    public static void main(String[] args) throws IOException, ReflectiveOperationException {
        String readme = Files.readString(Path.of("README.md"));
        Matcher block = BLOCK.matcher(readme);
        int blocks = 0;
        while (block.find()) {
            blocks++;
            x = null;
            for (String line : block.group(1).split("\n")) {
                runLine(line.strip());
            }
        }
        Checks.holds("README has examples", blocks > 0);
        Set<String> face = faceOfDocument();
        Checks.due("calls in the document's face", face.size(), 42);
        for (String call : face) {
            Checks.holds("README names `" + call + "`", readme.contains("`" + call + "`"));
        }
        for (String file : Path.of("src/test/java").toFile().list()) {
            Checks.holds("README names " + file, readme.contains("`" + file.replace(".java", "") + "`"));
        }
        Checks.end();
    }
}
