import java.io.IOException;
import java.lang.reflect.Method;
import java.nio.file.Files;
import java.nio.file.Path;
import java.util.regex.Matcher;
import java.util.regex.Pattern;

/** The lines "hall.call(..); // answer" of README.md, one after the other on one object. */
final class ReadmeTest {
    private static final Pattern CALL = Pattern.compile("hall\\.(\\w+)\\((.*?)\\); +// (-?\\w+).*");

    private ReadmeTest() {
    }

    public static void main(String[] args) throws IOException, ReflectiveOperationException {
        BeamTurnstiles hall = new BeamTurnstiles();
        int calls = 0;
        for (String line : Files.readAllLines(Path.of("README.md"))) {
            Matcher call = CALL.matcher(line);
            if (call.matches()) {
                calls++;
                Due.due(line, answer(hall, call.group(1), call.group(2)), number(call.group(3)));
            }
        }
        Due.due("more than 20 examples", calls > 20 ? 1 : 0, 1);
        Due.end("ReadmeTest");
    }

    private static long answer(BeamTurnstiles hall, String name, String parameters)
            throws ReflectiveOperationException {
        String[] texts = parameters.isEmpty() ? new String[0] : parameters.split(", ");
        for (Method method : BeamTurnstiles.class.getMethods()) {
            if (method.getName().equals(name) && method.getParameterCount() == texts.length) {
                Object[] values = new Object[texts.length];
                for (int k = 0; k < texts.length; k++) {
                    long value = number(texts[k].replace("BeamTurnstiles.", ""));
                    values[k] = method.getParameterTypes()[k] == long.class ? (Object) value : (Object) (int) value;
                }
                return (Integer) method.invoke(hall, values);
            }
        }
        throw new NoSuchMethodException(name);
    }

    private static long number(String text) throws ReflectiveOperationException {
        if (Character.isLetter(text.charAt(0))) {
            return BeamTurnstiles.class.getField(text).getInt(null);
        }
        return Long.decode(text.replace("L", ""));
    }
}
