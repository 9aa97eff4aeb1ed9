import java.io.IOException;
import java.lang.reflect.InvocationTargetException;
import java.lang.reflect.Method;
import java.nio.file.Files;
import java.nio.file.Path;
import java.util.List;
import java.util.regex.Matcher;
import java.util.regex.Pattern;

/** Plays the calls that README.md shows, and compares what it says of them. */
final class ReadmeTest {
    private static final Pattern FEED = Pattern.compile("feed\\(house, \"(.*)\"\\);");
    private static final Pattern CALL = Pattern.compile("house\\.(\\w+)\\((.*)\\); +// ([-\\w]+)(: .*| \\(.*)?");

    private ReadmeTest() {
    }

    private static Method method(String name) {
        for (Method m : ChipFlow.class.getDeclaredMethods()) {
            if (m.getName().equals(name)) {
                return m;
            }
        }
        throw new IllegalArgumentException(name);
    }

    private static Object value(String argument) {
        if (argument.equals("true") || argument.equals("false")) {
            return Boolean.valueOf(argument);
        }
        return argument.equals("NONE") ? Integer.valueOf(ChipFlow.NONE) : Integer.decode(argument);
    }

    private static String answer(ChipFlow house, String name, String arguments) throws IllegalAccessException {
        String[] texts = arguments.isEmpty() ? new String[0] : arguments.split(", ");
        Object[] values = new Object[texts.length];
        for (int k = 0; k < texts.length; k++) {
            values[k] = value(texts[k]);
        }
        try {
            Object got = method(name).invoke(house, values);
            return got == null ? "nothing" : got.toString();
        } catch (InvocationTargetException e) {
            return e.getCause().getClass().getSimpleName();
        }
    }

    /** The lines of README.md in order, on one house; every method of the face is among them. */
    private static void played(List<String> lines) throws IllegalAccessException {
        ChipFlow house = new ChipFlow();
        StringBuilder names = new StringBuilder(" ");
        for (String line : lines) {
            Matcher feed = FEED.matcher(line);
            Matcher call = CALL.matcher(line);
            if (feed.matches()) {
                Check.feed(house, feed.group(1));
            } else if (call.matches()) {
                Check.same(line, answer(house, call.group(1), call.group(2)), call.group(3));
                names.append(call.group(1)).append(' ');
            } else {
                Check.same(line + " can be played", line.startsWith("house."), false);
            }
        }
        for (Method m : ChipFlow.class.getDeclaredMethods()) {
            if (java.lang.reflect.Modifier.isPublic(m.getModifiers())) {
                Check.same("README.md shows " + m.getName(), names.indexOf(" " + m.getName() + " ") >= 0, true);
            }
        }
    }

    public static void main(String[] args) throws IOException, IllegalAccessException {
        played(Files.readAllLines(Path.of("README.md")));
        Check.finish("ReadmeTest");
    }
}
