import java.lang.reflect.Method;
import java.lang.reflect.Modifier;
import java.nio.file.Files;
import java.nio.file.Path;
import java.util.regex.Matcher;
import java.util.regex.Pattern;

/** What README.md says of calls and answers: its example is called row by row, and its table has every call. */
public final class ReadmeTest {
    private static final Pattern CALL = Pattern.compile("(?m)^x\\.(\\w+)\\((.*)\\); +// (\\S+)$");

    public static void main(String[] args) throws Exception {
        String page = Files.readString(Path.of("README.md"));
        example(page);
        for (Method m : TurnedPosts.class.getDeclaredMethods()) {
            if (Modifier.isPublic(m.getModifiers())) {
                Check.due("table has " + m.getName(), page.contains("`" + m.getName() + "`"), true);
            }
        }
        Check.done("ReadmeTest");
    }

    private static void example(String page) throws Exception {
        TurnedPosts x = new TurnedPosts();
        Matcher row = CALL.matcher(page);
        int rows = 0;
        while (row.find()) {
            String answer = String.valueOf(call(x, row.group(1), row.group(2).split(", ")));
            Check.due(row.group() + ": " + answer, answer.equals(row.group(3)), true);
            rows++;
        }
        Check.due("rows of the example", rows, page.split("\nx\\.").length - 1);
        Check.due("rows of the example are some", rows > 0, true);
    }

    private static Object call(TurnedPosts x, String name, String[] arguments) throws Exception {
        for (Method m : TurnedPosts.class.getDeclaredMethods()) {
            if (m.getName().equals(name) && Modifier.isPublic(m.getModifiers())) {
                Object[] values = new Object[arguments.length];
                for (int i = 0; i < values.length; i++) {
                    values[i] = m.getParameterTypes()[i] == boolean.class ? (Object) Boolean.valueOf(arguments[i])
                        : (Object) number(arguments[i]);
                }
                return m.invoke(x, values);
            }
        }
        return "no such call";
    }

    private static int number(String argument) {
        return argument.equals("TurnedPosts.NONE") ? TurnedPosts.NONE : Integer.decode(argument);
    }
}
