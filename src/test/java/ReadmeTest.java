import java.lang.reflect.Method;
import java.nio.file.Files;
import java.nio.file.Path;
import java.util.regex.Matcher;
import java.util.regex.Pattern;

/** Makes the calls of README.md's example, one after the other: each has to answer what is written behind it. */
public final class ReadmeTest {
    private static final Pattern CALL = Pattern.compile("x\\.(\\w+)\\((.*)\\); *// (-?\\d+).*");

    public static void main(String[] args) throws Exception {
        BookDroplets x = new BookDroplets();
        for (String line : example().split("\n")) {
            if (line.startsWith("x.")) {
                Matcher call = CALL.matcher(line);
                Due.is("README.md tells an answer: " + line, call.matches() ? 1 : 0, 1);
                Due.is("README.md: " + line, answer(x, call.group(1), call.group(2)), Integer.parseInt(call.group(3)));
            }
        }
        Due.end();
    }

    private static String example() throws Exception {
        String readme = Files.readString(Path.of("README.md"));
        int start = readme.indexOf("```java");
        return readme.substring(start, readme.indexOf("```", start + 1));
    }

    private static int answer(BookDroplets x, String name, String listed) throws Exception {
        String[] words = listed.isEmpty() ? new String[0] : listed.split(", ");
        for (Method method : BookDroplets.class.getMethods()) {
            if (method.getName().equals(name)) {
                return (Integer) method.invoke(x, arguments(method, words));
            }
        }
        throw new IllegalStateException("no such call: " + name);
    }

    private static Object[] arguments(Method method, String[] words) {
        Object[] arguments = new Object[words.length];
        for (int i = 0; i < words.length; i++) {
            long value = Long.decode(words[i].replace("L", ""));
            if (method.getParameterTypes()[i] == long.class) {
                arguments[i] = value;
            } else {
                arguments[i] = (int) value;
            }
        }
        return arguments;
    }
}
