import java.io.IOException;
import java.lang.reflect.InvocationTargetException;
import java.lang.reflect.Method;
import java.lang.reflect.Modifier;
import java.nio.file.Files;
import java.nio.file.Path;
import java.util.Arrays;
import java.util.regex.Matcher;
import java.util.regex.Pattern;

/** README.md: its examples answer what is written behind them, and it names each call of the face. */
public final class ReadmeTest {
    private static final Pattern BLOCK = Pattern.compile("```java\n(.*?)```", Pattern.DOTALL);
    private static final Pattern WRITE = Pattern.compile("write\\(x, \"([^\"]*)\"\\);");
    private static final Pattern CALL =
        Pattern.compile("x\\.(\\w+)\\(([-0-9, ]*)\\); +// (-?\\d+|[A-Z]\\w+Exception)\\b.*");
    // Each call and each piece of twenty bytes counts.
    private static final int MOST_CALLS = 512;

    private static PackTracer x;
    private static int calls;

    public static void main(String[] args) throws IOException, ReflectiveOperationException {
        String page = Files.readString(Path.of("README.md"));
        String own = flat(Files.readString(Path.of("src/test/java/ReadmeTest.java")));
        int examples = 0;
        Matcher block = BLOCK.matcher(page);
        while (block.find()) {
            if (block.group(1).startsWith("static ")) {
                Due.is("README's helpers stand in ReadmeTest", own.contains(flat(block.group(1))) ? 1 : 0, 1);
            } else {
                runBlock(block.group(1));
            }
            examples++;
        }
        Due.is("README has examples", examples >= 4 ? 1 : 0, 1);
        Due.is("README's calls are no more than an object is for", calls <= MOST_CALLS ? 1 : 0, 1);
        namesEachCall(page);
        belowZero(page);
        Due.end();
    }

    // ---- as README has them

    static void write(PackTracer x, String words) {
        for (int i = 0; i < words.length(); i += 20) {
            x.feed(four(words, i), four(words, i + 4), four(words, i + 8), four(words, i + 12), four(words, i + 16));
        }
    }

    static int four(String words, int from) {
        int bytes = 0;
        for (int i = from; i < from + 4; i++) {
            bytes = bytes << 8 | (i < words.length() ? words.charAt(i) : ' ');
        }
        return bytes;
    }

    // ----

    private static String flat(String words) {
        return words.replaceAll("\\s+", " ").trim();
    }

    private static void runBlock(String block) throws ReflectiveOperationException {
        for (String line : block.split("\n")) {
            Matcher writes = WRITE.matcher(line);
            Matcher call = CALL.matcher(line);
            if (line.equals("PackTracer x = new PackTracer();")) {
                x = new PackTracer();
            } else if (writes.matches()) {
                write(x, writes.group(1));
                calls += (writes.group(1).length() + 19) / 20;
            } else if (call.matches()) {
                calls++;
                answers(line, call.group(1), call.group(2), call.group(3));
            } else {
                Due.is("README has a line that can't be run: " + line, 0, 1);
            }
        }
    }

    private static void answers(String line, String name, String list, String due) throws ReflectiveOperationException {
        Object[] numbers = Arrays.stream(list.split(", ")).map(Integer::valueOf).toArray();
        Class<?>[] types = new Class<?>[numbers.length];
        Arrays.fill(types, int.class);
        Method method = PackTracer.class.getMethod(name, types);
        String got;
        try {
            got = String.valueOf(method.invoke(x, numbers));
        } catch (InvocationTargetException e) {
            got = e.getCause().getClass().getSimpleName();
        }
        Due.is("README: " + line + " (" + got + ")", got.equals(due) ? 1 : 0, 1);
    }

    private static void namesEachCall(String page) {
        for (Method method : PackTracer.class.getDeclaredMethods()) {
            if (Modifier.isPublic(method.getModifiers())) {
                boolean named = Pattern.compile("`" + method.getName() + "\\b").matcher(page).find();
                Due.is("README names " + method.getName(), named ? 1 : 0, 1);
            }
        }
    }

    private static void belowZero(String page) {
        String[] rows = {"| -1, `NONE` |", "| -2 |", "| -3 |", "| -4 |", "| -5 |", "| -10 |", "| -1000 |"};
        for (String row : rows) {
            Due.is("README tells what is meant by " + row, page.contains("\n" + row) ? 1 : 0, 1);
        }
    }
}
