import java.io.IOException;
import java.lang.reflect.Method;
import java.lang.reflect.Modifier;
import java.nio.file.Files;
import java.nio.file.Path;
import java.util.regex.Matcher;
import java.util.regex.Pattern;

/** README.md tells answers of calls, one behind the other; they are asked for here, and each call has to be named. */
public final class ReadmeTest {
    private static final Check CHECK = new Check("ReadmeTest");
    private static final Pattern TEXT = Pattern.compile("(?s)```text\n(gorge .*?)```");
    private static final Pattern CALL = Pattern.compile("(?m)^x\\.(\\w+)\\(([^)]*)\\); +// (-?\\d+)");

    public static void main(String[] args) throws ReflectiveOperationException, IOException {
        String page = Files.readString(Path.of("README.md"));
        Matcher text = TEXT.matcher(page);
        CHECK.due("a text is told", text.find() ? 1 : 0, 1);
        WristTreaty x = Check.of(text.group(1));
        int asked = 0;
        for (Matcher call = CALL.matcher(page); call.find(); asked++) {
            ask(x, call.group(1), call.group(2), Long.parseLong(call.group(3)));
        }
        CHECK.due("calls are told", asked >= 20 ? 1 : 0, 1);
        for (Method method : WristTreaty.class.getDeclaredMethods()) {
            if (Modifier.isPublic(method.getModifiers())) {
                CHECK.due(method.getName() + " is named", page.contains("`" + method.getName() + "`") ? 1 : 0, 1);
            }
        }
        CHECK.finish();
    }

    private static void ask(WristTreaty x, String name, String told, long due) throws ReflectiveOperationException {
        String[] numbers = told.isEmpty() ? new String[0] : told.split(", ");
        for (Method method : WristTreaty.class.getDeclaredMethods()) {
            if (method.getName().equals(name) && Modifier.isPublic(method.getModifiers())) {
                Object[] given = new Object[numbers.length];
                for (int i = 0; i < given.length; i++) {
                    boolean isLong = method.getParameterTypes()[i] == long.class;
                    given[i] = isLong ? (Object) Long.valueOf(numbers[i]) : (Object) Integer.valueOf(numbers[i]);
                }
                CHECK.due("README: " + name + "(" + told + ")", ((Number) method.invoke(x, given)).longValue(), due);
                return;
            }
        }
        CHECK.due("README: there is no " + name, 0, 1);
    }
}
