import java.io.IOException;
import java.lang.reflect.Method;
import java.nio.file.Files;
import java.nio.file.Path;
import java.util.regex.Matcher;
import java.util.regex.Pattern;

/** The example of README.md: its calls are made one behind the other, and answer what it tells. */
public final class ReadmeTest {
    private static final Pattern SKY = Pattern.compile("(?m)^tell\\(x, \"([^\"]*)\"\\);$");
    private static final Pattern CALL = Pattern.compile("(?m)^x\\.(\\w+)\\(([^)]*)\\); *// (-?\\d+)");

    public static void main(String[] args) throws IOException, ReflectiveOperationException {
        Due d = new Due("ReadmeTest");
        String text = Files.readString(Path.of("README.md"));
        Matcher sky = SKY.matcher(text);
        d.due("there is a sky", sky.find() ? 1 : 0, 1);
        LastCloud x = Skies.under(sky.group(1));
        int calls = 0;
        Matcher call = CALL.matcher(text);
        while (call.find()) {
            calls++;
            d.due(call.group(1) + "(" + call.group(2) + ")", ask(x, call.group(1), call.group(2)),
                Long.parseLong(call.group(3)));
        }
        d.due("there are calls", calls > 15 ? 1 : 0, 1);
        everyCallIsNamed(d, text);
        d.finish();
    }

    private static long ask(LastCloud x, String name, String arguments) throws ReflectiveOperationException {
        String[] told = arguments.isEmpty() ? new String[0] : arguments.split(", *");
        for (Method m : LastCloud.class.getDeclaredMethods()) {
            if (m.getName().equals(name) && m.getParameterCount() == told.length) {
                Object[] values = new Object[told.length];
                for (int i = 0; i < told.length; i++) {
                    boolean isFlag = m.getParameterTypes()[i] == boolean.class;
                    values[i] = isFlag ? (Object) Boolean.valueOf(told[i]) : (Object) Integer.valueOf(told[i]);
                }
                return ((Number) m.invoke(x, values)).longValue();
            }
        }
        throw new NoSuchMethodException(name);
    }

    private static void everyCallIsNamed(Due d, String text) {
        for (Method m : LastCloud.class.getDeclaredMethods()) {
            if (java.lang.reflect.Modifier.isPublic(m.getModifiers())) {
                d.due("README names " + m.getName(), text.contains("`" + m.getName() + "`") ? 1 : 0, 1);
            }
        }
    }
}
