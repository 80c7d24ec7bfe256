import java.io.IOException;
import java.lang.reflect.Method;
import java.nio.charset.StandardCharsets;
import java.nio.file.Files;
import java.nio.file.Path;
import java.util.TreeSet;
import java.util.regex.Matcher;
import java.util.regex.Pattern;

/**
 * The calls that README.md shows, made in their order, each compared with the answer behind it. A line of its Java blocks that
 * is neither a new object nor such a call counts as wrong, so that nothing is shown that this test passes over.
 */
public final class ReadmeTest {
    private static final String NEW_OBJECT = "LieSlides x = new LieSlides();";
    private static final Pattern BLOCK = Pattern.compile("```java\n(.*?)```", Pattern.DOTALL);
    private static final Pattern CALL = Pattern.compile("x\\.(\\w+)\\(([^)]*)\\); +// (-?\\d+|[A-Z]+)(?:: (.*))?");
    private static final Pattern CONSTANT = Pattern.compile("`([A-Z]+)` (-\\d+) ");

    private final TreeSet<String> shown = new TreeSet<>();
    private LieSlides x = null;
    private int calls = 0;

    public static void main(String[] args) throws IOException, ReflectiveOperationException {
        String page = Files.readString(Path.of(System.getProperty("lieslides.readme", "README.md")));
        ReadmeTest test = new ReadmeTest();
        Matcher blocks = BLOCK.matcher(page);
        while (blocks.find()) {
            for (String line : blocks.group(1).split("\n")) {
                test.look(line);
            }
        }
        test.allShown();
        constants(page);
        Check.end();
    }

    private void look(String line) throws ReflectiveOperationException {
        if (line.equals(NEW_OBJECT)) {
            x = new LieSlides();
            calls = 0;
            return;
        }
        Matcher call = CALL.matcher(line);
        boolean fits = x != null && call.matches();
        Check.due("this line is a call with its answer: " + line, fits ? 1 : 0, 1);
        if (fits) {
            calls++;
            Check.due("an object is used for 512 calls at most", calls <= 512 ? 1 : 0, 1);
            Check.due("README.md: " + line, answer(call.group(1), call.group(2)), told(call.group(3)));
            if (call.group(1).equals("feed")) {
                fed(line, call.group(2), call.group(4));
            }
        }
    }

    private int answer(String name, String list) throws ReflectiveOperationException {
        String[] texts = list.isEmpty() ? new String[0] : list.split(", ");
        for (Method m : LieSlides.class.getMethods()) {
            if (m.getDeclaringClass() == LieSlides.class && m.getName().equals(name) && m.getParameterCount() == texts.length) {
                shown.add(name);
                Object[] numbers = new Object[texts.length];
                for (int k = 0; k < texts.length; k++) {
                    boolean isLong = m.getParameterTypes()[k] == long.class;
                    numbers[k] = isLong ? (Object) longOf(texts[k]) : (Object) Integer.valueOf(texts[k]);
                }
                return (Integer) m.invoke(x, numbers);
            }
        }
        throw new IllegalArgumentException("README.md shows a call that there is none of: " + name + "(" + list + ")");
    }

    private static Long longOf(String text) {
        return Long.parseUnsignedLong(text.substring("0x".length(), text.length() - "L".length()), 16);
    }

    private static int told(String text) throws ReflectiveOperationException {
        boolean isName = Character.isUpperCase(text.charAt(0));
        return isName ? LieSlides.class.getField(text).getInt(null) : Integer.parseInt(text);
    }

    /** The bytes that are fed are those of the text that stands behind them. */
    private static void fed(String line, String list, String comment) {
        String[] texts = list.split(", ");
        int n = Integer.parseInt(texts[1]);
        byte[] bytes = new byte[n];
        for (int k = 0; k < n; k++) {
            bytes[k] = (byte) (longOf(texts[0]) >> 8 * (n - 1 - k));
        }
        String quoted = "\"" + new String(bytes, StandardCharsets.ISO_8859_1) + "\"";
        Check.due("the text of " + line, quoted.equals(comment) ? 1 : 0, 1);
    }

    private void allShown() {
        for (Method m : LieSlides.class.getMethods()) {
            if (m.getDeclaringClass() == LieSlides.class) {
                Check.due("README.md shows " + m.getName(), shown.contains(m.getName()) ? 1 : 0, 1);
            }
        }
    }

    /** The table of answers tells each constant with its number. */
    private static void constants(String page) throws ReflectiveOperationException {
        Matcher m = CONSTANT.matcher(page);
        int found = 0;
        while (m.find()) {
            found++;
            Check.due("README.md: " + m.group(1), told(m.group(1)), Integer.parseInt(m.group(2)));
        }
        Check.due("constants in the table of README.md", found, 4);
    }
}
