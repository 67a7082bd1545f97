import java.io.IOException;
import java.lang.reflect.Method;
import java.nio.file.Files;
import java.nio.file.Path;
import java.util.regex.Matcher;
import java.util.regex.Pattern;

/** The calls that README.md shows answer what stands behind them. Runs in the project's folder. */
public final class ReadmeTest {
    private static final Due DUE = new Due("ReadmeTest");
    private static final Pattern CALL = Pattern.compile("slabs\\.(\\w+)\\(([-\\d, ]*)\\); +// (-?\\d+)");
    private static final Pattern TEXT = Pattern.compile("type\\(slabs, \"(.*)\"\\);");
    private static final String FIRST = "PlateSlabs slabs = new PlateSlabs();";

    public static void main(String[] args) throws IOException, ReflectiveOperationException {
        String readme = Files.readString(Path.of("README.md"));
        String shown = readme.substring(readme.indexOf(FIRST));
        PlateSlabs slabs = new PlateSlabs();
        int calls = 0;
        for (String line : shown.substring(FIRST.length(), shown.indexOf("```")).trim().split("\n")) {
            Matcher text = TEXT.matcher(line);
            Matcher call = CALL.matcher(line);
            if (text.matches()) {
                Due.write(slabs, text.group(1));
            } else if (call.matches()) {
                calls++;
                DUE.is(line, answer(slabs, call.group(1), call.group(2)), Long.parseLong(call.group(3)));
            } else {
                DUE.is("\"" + line + "\" is a call", 0, 1);
            }
        }
        DUE.is("calls shown", calls, 15);
        DUE.end();
    }

    private static long answer(PlateSlabs slabs, String name, String list) throws ReflectiveOperationException {
        String[] given = list.isEmpty() ? new String[0] : list.split(", *");
        Class<?>[] types = new Class<?>[given.length];
        Object[] numbers = new Object[given.length];
        for (int i = 0; i < given.length; i++) {
            types[i] = int.class;
            numbers[i] = Integer.valueOf(given[i]);
        }
        Method method = PlateSlabs.class.getMethod(name, types);
        return ((Number) method.invoke(slabs, numbers)).longValue();
    }
}
