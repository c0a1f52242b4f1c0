import java.lang.reflect.InvocationTargetException;
import java.lang.reflect.Method;
import java.lang.reflect.Modifier;
import java.nio.file.Files;
import java.nio.file.Path;
import java.util.Set;
import java.util.TreeSet;
import java.util.regex.Matcher;
import java.util.regex.Pattern;

/** Makes the calls of README.md's examples, one after the other, and holds their answers against what it says. */
public final class ReadmeTest {
    private static final Pattern BLOCK = Pattern.compile("(?s)```java\n(.*?)```");
    /** Perhaps a type with a name, a call with its arguments, perhaps a comment. */
    private static final Pattern LINE =
            Pattern.compile("(?:(\\w+) \\w+ = )?game\\.(\\w+)\\(([^()]*)\\);\\s*(?:// (.*))?");
    /** A comment is an answer if it begins like one: the rest is meant for the reader. */
    private static final Pattern ANSWER = Pattern.compile("(-?\\d+|true|false|throws \\w+)(?::.*)?");
    private static final Pattern HAND = Pattern.compile("comes to hand: (-?\\d+)(/\\d+)?$");

    private static final Set<String> called = new TreeSet<>();
    private static BestReplies game = null;

    public static void main(String[] args) throws Exception {
        Path root = Path.of(args[0]).toAbsolutePath().normalize().getParent().getParent().getParent().getParent();
        Matcher blocks = BLOCK.matcher(Files.readString(root.resolve("README.md")));
        while (blocks.find()) {
            for (String line : blocks.group(1).split("\n")) {
                follow(line);
            }
        }
        for (Method each : BestReplies.class.getDeclaredMethods()) {
            if (Modifier.isPublic(each.getModifiers())) {
                Check.due("README.md shows " + each.getName(), called.contains(each.getName()), true);
            }
        }
        Check.finish();
    }

    private static void follow(String line) throws Exception {
        if (line.equals("BestReplies game = new BestReplies();")) {
            game = new BestReplies();
            return;
        }
        Matcher parts = LINE.matcher(line);
        boolean isCall = parts.matches();
        Check.due("a call: " + line, isCall, true);
        if (!isCall) {
            return;
        }
        Method method = find(parts.group(2));
        called.add(method.getName());
        if (parts.group(1) != null) {
            Check.due("the type in " + line, parts.group(1), method.getReturnType().getName());
        }
        Check.due("README.md: " + line, outcome(method, parts.group(3)), due(method, parts.group(4)));
        Matcher number = HAND.matcher(line);
        if (number.find()) {
            String denominator = number.group(2) == null ? "/1" : number.group(2);
            Check.due("the number at hand after " + line, Games.hand(game), number.group(1) + denominator);
        }
    }

    private static Method find(String name) {
        for (Method each : BestReplies.class.getDeclaredMethods()) {
            if (each.getName().equals(name)) {
                return each;
            }
        }
        throw new IllegalArgumentException("README.md calls " + name);
    }

    private static String due(Method method, String comment) {
        Matcher answer = ANSWER.matcher(comment == null ? "" : comment);
        if (answer.matches()) {
            return answer.group(1);
        }
        return method.getReturnType() == void.class ? "null" : "an answer in README.md";
    }

    private static String outcome(Method method, String written) throws Exception {
        Class<?>[] types = method.getParameterTypes();
        String[] words = written.isEmpty() ? new String[0] : written.split(", ");
        Object[] values = new Object[types.length];
        for (int i = 0; i < types.length; i++) {
            values[i] = types[i] == boolean.class ? Boolean.valueOf(words[i]) : (Object) Integer.valueOf(words[i]);
        }
        try {
            return String.valueOf(method.invoke(game, values));
        } catch (InvocationTargetException e) {
            return "throws " + e.getCause().getClass().getSimpleName();
        }
    }
}
