import java.lang.reflect.Method;
import java.lang.reflect.Modifier;
import java.nio.charset.StandardCharsets;
import java.nio.file.Files;
import java.nio.file.Path;
import java.util.List;
import java.util.regex.Matcher;
import java.util.regex.Pattern;

/** README.md: each call of its example answers what stands behind it, and no call is left out. Runs in the project's folder. */
public final class ReadmeTest {
    private static final Pattern CALL = Pattern.compile("mill\\.(\\w+)\\((.*)\\); *// (\\w+): .*");

    private ReadmeTest() { }

    public static void main(String[] args) throws Exception {
        List<String> lines = Files.readAllLines(Path.of("README.md"), StandardCharsets.US_ASCII);
        example(lines);
        everyCallIsTold(String.join("\n", lines));
        everyTestIsTold(String.join("\n", lines));
        Check.end();
    }

    private static void example(List<String> lines) throws Exception {
        MixedMill mill = new MixedMill();
        int calls = 0;
        for (String line : lines) {
            if (!line.startsWith("mill.")) continue;
            Matcher m = CALL.matcher(line);
            Check.isTrue(line + " is a call with its answer", m.matches());
            Check.due("README: " + line, answer(mill, m.group(1), m.group(2)), number(m.group(3)));
            calls++;
        }
        Check.isTrue("an example", calls > 10);
    }

    private static long answer(MixedMill mill, String name, String told) throws Exception {
        for (Method method : MixedMill.class.getDeclaredMethods()) {
            if (!Modifier.isPublic(method.getModifiers()) || !method.getName().equals(name)) continue;
            String[] words = told.isEmpty() ? new String[0] : told.split(", ");
            Object[] numbers = new Object[words.length];
            for (int w = 0; w < words.length; w++) {
                long n = number(words[w]);
                if (method.getParameterTypes()[w] == long.class) numbers[w] = n; else numbers[w] = (int) n;
            }
            return ((Number) method.invoke(mill, numbers)).longValue();
        }
        throw new IllegalArgumentException(name);
    }

    private static long number(String word) throws Exception {
        if (word.startsWith("'")) return word.charAt(1);
        if (word.startsWith("0x")) return Long.parseUnsignedLong(word.substring(2, word.length() - 1), 16);
        return Character.isUpperCase(word.charAt(0)) ? MixedMill.class.getField(word).getInt(null) : Long.parseLong(word);
    }

    private static void everyCallIsTold(String readme) {
        for (Method method : MixedMill.class.getDeclaredMethods()) {
            if (!Modifier.isPublic(method.getModifiers())) continue;
            Check.isTrue("README tells " + method.getName(), readme.contains("`" + method.getName() + "`"));
        }
    }

    private static void everyTestIsTold(String readme) {
        for (String name : new java.io.File("src/test/java").list()) {
            if (!name.endsWith("Test.java")) continue;
            String test = name.substring(0, name.length() - ".java".length());
            Check.isTrue("README tells " + test, readme.contains("`" + test + "`"));
        }
    }
}
