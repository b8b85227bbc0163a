import java.lang.reflect.Method;
import java.lang.reflect.Modifier;
import java.nio.file.Files;
import java.nio.file.Path;
import java.util.HashMap;
import java.util.HashSet;
import java.util.Map;
import java.util.Set;
import java.util.regex.Matcher;
import java.util.regex.Pattern;

/** What README.md says holds: its examples answer as told there, and it names every call. */
final class ReadmeTest {
    private static final Due DUE = new Due("ReadmeTest");
    private static final Pattern BLOCK = Pattern.compile("(?s)```java\n(.*?)```");
    private static final Pattern CALL = Pattern.compile("pegs\\.(\\w+)\\(([^)]*)\\);\\s*// (-?\\d+):.*");
    private static final Pattern TOLD = Pattern.compile("tell\\(pegs, \"([^\"]*)\"\\);\\s*// (-?\\d+):.*");
    private static final Pattern NAMED = Pattern.compile("`(\\w+)\\(([^)]*)\\)`");

    private static final Map<String, Method> FACE = new HashMap<>();

    public static void main(String[] args) throws Exception {
        for (Method method : PicturePegs.class.getDeclaredMethods()) {
            if (Modifier.isPublic(method.getModifiers())) {
                FACE.put(method.getName(), method);
            }
        }
        String readme = Files.readString(Path.of("README.md"));
        int answers = 0;
        Matcher block = BLOCK.matcher(readme);
        while (block.find()) {
            answers += example(block.group(1));
        }
        DUE.holds("README.md has examples", answers > 0);
        everyCallIsNamed(readme);
        DUE.end();
    }

    /** Makes the calls of one example; how many. A helper's text has no object of its own. */
    private static int example(String code) throws Exception {
        String[] lines = code.split("\n");
        if (!lines[0].equals("PicturePegs pegs = new PicturePegs();")) {
            return 0;
        }
        PicturePegs pegs = new PicturePegs();
        for (int i = 1; i < lines.length; i++) {
            answersAsTold(pegs, lines[i]);
        }
        return lines.length - 1;
    }

    private static void answersAsTold(PicturePegs pegs, String line) throws Exception {
        Matcher told = TOLD.matcher(line);
        Matcher call = CALL.matcher(line);
        if (told.matches()) {
            DUE.is(line, Due.school(pegs, told.group(1)), Long.parseLong(told.group(2)));
        } else if (call.matches() && FACE.containsKey(call.group(1))) {
            DUE.is(line, answer(pegs, call), Long.parseLong(call.group(3)));
        } else {
            DUE.holds("a call with its answer: " + line, false);
        }
    }

    private static long answer(PicturePegs pegs, Matcher call) throws Exception {
        String[] numbers = parted(call.group(2));
        Object[] values = new Object[numbers.length];
        for (int i = 0; i < numbers.length; i++) {
            values[i] = Integer.parseInt(numbers[i]);
        }
        return ((Number) FACE.get(call.group(1)).invoke(pegs, values)).longValue();
    }

    private static void everyCallIsNamed(String readme) {
        Set<String> named = new HashSet<>();
        Matcher m = NAMED.matcher(readme);
        while (m.find()) {
            Method method = FACE.get(m.group(1));
            DUE.holds(m.group() + " is a call", method != null);
            if (method != null) {
                DUE.is(m.group() + " takes", parted(m.group(2)).length, method.getParameterCount());
                named.add(m.group(1));
            }
        }
        for (String name : FACE.keySet()) {
            DUE.holds("README.md names " + name, named.contains(name));
        }
    }

    private static String[] parted(String list) {
        return list.isEmpty() ? new String[0] : list.split(", ");
    }
}
