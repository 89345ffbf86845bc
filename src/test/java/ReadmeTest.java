import java.io.IOException;
import java.lang.reflect.Method;
import java.nio.file.Files;
import java.nio.file.Path;
import java.util.regex.Matcher;
import java.util.regex.Pattern;

/** What README.md shows: each call of its example answers what stands behind it, and its nodes can be read. */
public final class ReadmeTest {
    private static final Pattern TEXT = Pattern.compile("String text = \"(.*)\";");
    private static final Pattern CALL = Pattern.compile("^x\\.(\\w+)\\((.*?)\\); *// (-?[0-9]+):", Pattern.MULTILINE);
    private static final Pattern ROW = Pattern.compile("^\\| (`[a-z].*?`) \\|", Pattern.MULTILINE);
    private static final Pattern CODE = Pattern.compile("`(.*?)`");

    public static void main(String[] args) throws IOException, ReflectiveOperationException {
        String readme = Files.readString(Path.of("README.md"));
        example(readme.substring(readme.indexOf("```java"), readme.lastIndexOf("```")));
        tables(readme);
        Due.close("ReadmeTest");
    }

    private static void example(String code) throws ReflectiveOperationException {
        Matcher text = TEXT.matcher(code);
        Due.is("texts in the example", text.find() ? 1 : 0, 1);
        PictureScript x = Due.withText(text.group(1));
        Matcher call = CALL.matcher(code);
        int calls = 0;
        while (call.find()) {
            Due.is(call.group(), answer(x, call.group(1), call.group(2)), Integer.parseInt(call.group(3)));
            calls++;
        }
        Due.is("calls in the example", calls, 10);
    }

    private static int answer(PictureScript x, String name, String given) throws ReflectiveOperationException {
        String[] words = given.isEmpty() ? new String[0] : given.split(", ");
        Object[] arguments = new Object[words.length];
        Class<?>[] kinds = new Class<?>[words.length];
        for (int i = 0; i < words.length; i++) {
            boolean number = Character.isDigit(words[i].charAt(0));
            kinds[i] = number ? int.class : boolean.class;
            if (number) {
                arguments[i] = Integer.valueOf(words[i]);
            } else {
                arguments[i] = Boolean.valueOf(words[i]);
            }
        }
        Method method = PictureScript.class.getMethod(name, kinds);
        return (Integer) method.invoke(x, arguments);
    }

    /** The first column of a table holds nodes or calls. */
    private static void tables(String readme) {
        int nodes = 0;
        int calls = 0;
        Matcher row = ROW.matcher(readme);
        while (row.find()) {
            Matcher code = CODE.matcher(row.group(1));
            while (code.find()) {
                if (isCall(code.group(1))) {
                    calls++;
                } else {
                    Due.good(code.group(1) + ";");
                    nodes++;
                }
            }
        }
        Due.is("nodes in the tables", nodes, 9);
        Due.is("calls in the tables", calls, 22);
    }

    private static boolean isCall(String name) {
        for (Method method : PictureScript.class.getDeclaredMethods()) {
            if (method.getName().equals(name)) {
                return true;
            }
        }
        return false;
    }
}
