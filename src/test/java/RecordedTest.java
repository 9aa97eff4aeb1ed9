import java.io.IOException;
import java.lang.reflect.InvocationTargetException;
import java.lang.reflect.Method;
import java.nio.file.Files;
import java.nio.file.Path;
import java.util.HashMap;
import java.util.List;
import java.util.Map;

/**
 * All promises: runs of at most 512 calls, mixed from the whole face, with the answers that a
 * second, plain program worked out from the document (src/test/data/runs.txt: a call and its
 * numbers, then -> and the answer; a boolean counts 1 or 0).
 */
public final class RecordedTest {
    private static String answer(ChipFlow x, Method m, String[] words) throws IllegalAccessException {
        Object[] given = new Object[words.length - 1];
        for (int k = 0; k < given.length; k++) {
            boolean flag = m.getParameterTypes()[k] == boolean.class;
            given[k] = flag ? (Object) !words[k + 1].equals("0") : (Object) Integer.valueOf(words[k + 1]);
        }
        try {
            Object got = m.invoke(x, given);
            return got == null ? "void" : got instanceof Boolean ? (Boolean) got ? "1" : "0" : got.toString();
        } catch (InvocationTargetException e) {
            return "throws." + e.getCause().getClass().getSimpleName();
        }
    }

    public static void main(String[] args) throws IOException, IllegalAccessException {
        Map<String, Method> face = new HashMap<>();
        for (Method m : ChipFlow.class.getMethods()) {
            face.put(m.getName(), m);
        }
        List<String> lines = Files.readAllLines(Path.of("src/test/data/runs.txt"));
        ChipFlow x = new ChipFlow();
        int number = 0;
        for (String line : lines) {
            number++;
            if (line.equals("new")) {
                x = new ChipFlow();
            } else {
                String[] sides = line.split(" -> ");
                String[] words = sides[0].split(" ");
                Check.same("line " + number + ": " + sides[0], answer(x, face.get(words[0]), words), sides[1]);
            }
        }
        Check.finish("RecordedTest");
    }
}
