import java.io.IOException;
import java.lang.reflect.InvocationTargetException;
import java.lang.reflect.Method;
import java.nio.file.Files;
import java.nio.file.Path;
import java.util.ArrayList;
import java.util.List;
import java.util.regex.Matcher;
import java.util.regex.Pattern;

/** Makes the calls that README.md shows, and looks whether they answer what it says behind them. */
public final class ReadmeTest {
    private static final Checks CHECKS = new Checks();
    private static final Pattern CALL = Pattern.compile("ice\\.(\\w+)\\(([^)]*)\\);\\s*// (-?\\d+): .*");

    public static void main(String[] args) throws IOException, ReflectiveOperationException {
        String[] lines = javaLines();
        PondIceTrade ice = null;
        for (String line : lines) {
            Matcher call = CALL.matcher(line);
            if (line.equals("PondIceTrade ice = new PondIceTrade();")) {
                ice = new PondIceTrade();
            } else if (call.matches()) {
                String made = call.group(1) + "(" + call.group(2) + ")";
                CHECKS.due(made, answer(ice, call.group(1), call.group(2)), Long.parseLong(call.group(3)));
            } else {
                CHECKS.due("a line that is neither a call nor said: " + line, line.isEmpty() || line.startsWith("// ") ? 1 : 0, 1);
            }
        }
        allIsNamed();
        CHECKS.close();
    }

    private static String[] javaLines() throws IOException {
        Matcher block = Pattern.compile("(?s)```java\n(.*?)```").matcher(Files.readString(Path.of("README.md")));
        CHECKS.due("README.md shows how to use the class", block.find() ? 1 : 0, 1);
        return block.group(1).split("\n");
    }

    private static int answer(PondIceTrade ice, String name, String arguments) throws ReflectiveOperationException {
        List<Class<?>> types = new ArrayList<>();
        List<Object> values = new ArrayList<>();
        for (String argument : arguments.isEmpty() ? new String[0] : arguments.split(", ")) {
            boolean isTruth = argument.equals("true") || argument.equals("false");
            types.add(isTruth ? boolean.class : int.class);
            values.add(isTruth ? (Object) Boolean.valueOf(argument) : (Object) Integer.decode(argument));
        }
        Method method = PondIceTrade.class.getMethod(name, types.toArray(new Class<?>[0]));
        try {
            return (int) method.invoke(ice, values.toArray());
        } catch (InvocationTargetException thrown) {
            throw new IllegalStateException(name, thrown.getCause());
        }
    }

    /** Every method of the class stands in README.md, and every test. */
    private static void allIsNamed() throws IOException {
        String text = Files.readString(Path.of("README.md"));
        for (Method method : PondIceTrade.class.getMethods()) {
            if (method.getDeclaringClass() == PondIceTrade.class) {
                CHECKS.due(method.getName() + " is named", text.contains("`" + method.getName() + "`") ? 1 : 0, 1);
            }
        }
        try (var tests = Files.list(Path.of("src/test/java"))) {
            for (Path test : tests.toList()) {
                String name = test.getFileName().toString().replace(".java", "");
                CHECKS.due(name + " is named", text.contains("`" + name + "`") ? 1 : 0, 1);
            }
        }
    }
}
