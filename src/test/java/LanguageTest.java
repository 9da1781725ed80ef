import java.lang.reflect.Field;
import java.lang.reflect.Modifier;
import java.nio.charset.StandardCharsets;
import java.nio.file.Files;
import java.nio.file.Path;
import java.util.ArrayList;
import java.util.List;
import java.util.regex.Matcher;
import java.util.regex.Pattern;

/** What of LANGUAGE.md can be seen in the text of the class. Runs in the project's folder. */
public final class LanguageTest {
    private static final String[] RULED_OUT = {
        "->", "::", "\\bthrow\\b", "\\bcatch\\b", "\\btry\\b", "\\bfinally\\b", "\\bsynchronized\\b",
        "\\bassert\\b", "\\bpackage\\b", "static \\{", "\\bwhile\\b", "\\bvar\\b", "\\bThread\\b",
        "currentTimeMillis", "nanoTime", "Random", "\\bHashMap\\b", "Exact\\(",
    };

    private static final List<String> LIBRARY = List.of("Arrays.fill", "Integer.bitCount", "Math.max", "Math.min",
            "System.arraycopy");
    private static final int FIELDS_MOST = 20;

    private LanguageTest() { }

    public static void main(String[] args) throws Exception {
        List<String> lines = Files.readAllLines(Path.of("src/main/java/MixedMill.java"), StandardCharsets.US_ASCII);
        String code = String.join("\n", lines).replaceAll("(?s)/\\*.*?\\*/", "").replaceAll("//[^\n]*", "");
        for (String word : RULED_OUT) Check.isTrue("no " + word, !Pattern.compile(word).matcher(code).find());
        for (String line : lines) {
            if (line.startsWith("import ")) Check.isTrue(line, line.equals("import java.util.Arrays;"));
        }
        methodsAreShort(lines);
        libraryIsListed(code);
        fieldsAreFew();
        Check.end();
    }

    /** A capital ahead of a dot is a class of the library: the class's own are never named so. */
    private static void libraryIsListed(String code) {
        Matcher used = Pattern.compile("\\b[A-Z][a-z]\\w*\\.\\w+").matcher(code.replaceAll("import [^;]*;", ""));
        while (used.find()) Check.isTrue(used.group() + " is of the library that is left", LIBRARY.contains(used.group()));
    }

    private static void fieldsAreFew() {
        List<Class<?>> all = new ArrayList<>(List.of(MixedMill.class.getDeclaredClasses()));
        all.add(MixedMill.class);
        for (Class<?> one : all) {
            int fields = 0;
            for (Field f : one.getDeclaredFields()) if (!Modifier.isStatic(f.getModifiers())) fields++;
            Check.isTrue(one + " has " + fields + " fields", fields <= FIELDS_MOST);
        }
    }

    /** A method starts at a line that ends in ") {" beside no loop or test, and ends at its own depth. */
    private static void methodsAreShort(List<String> lines) {
        Pattern start = Pattern.compile("^( {4}| {8})(public|private) [^=;]*\\) \\{$");
        for (int from = 0; from < lines.size(); from++) {
            if (!start.matcher(lines.get(from)).matches()) continue;
            String close = lines.get(from).replaceAll("\\S.*", "") + "}";
            int to = from;
            while (to < lines.size() && !lines.get(to).equals(close)) to++;
            Check.isTrue(lines.get(from).trim() + " is short", to - from <= 45);
            Check.isTrue(lines.get(from).trim() + " takes few", lines.get(from).split(",").length <= 7);
        }
    }
}
