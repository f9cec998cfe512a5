import java.io.IOException;
import java.lang.reflect.Method;
import java.nio.file.Files;
import java.nio.file.Path;
import java.util.Map;
import java.util.Set;
import java.util.TreeSet;
import java.util.regex.Matcher;
import java.util.regex.Pattern;

/** The run of calls in README.md: each answers what stands behind it. */
public final class ReadmeTest {
    private static final Pattern CALL = Pattern.compile("x\\.(\\w+)\\(([^)]*)\\);\\s*// ([-\\w]+)(?:: (.*))?");
    private static final Map<String, Long> WORDS = Map.of("true", 1L, "false", 0L,
        "NONE", (long) DeltaSync.NONE, "BAD", (long) DeltaSync.BAD);

    public static void main(String[] args) throws IOException, ReflectiveOperationException {
        DeltaSync x = null;
        Set<String> used = new TreeSet<>();
        for (String line : runOfCalls()) {
            if (line.equals("DeltaSync x = new DeltaSync();")) {
                x = new DeltaSync();
                continue;
            }
            Matcher call = CALL.matcher(line);
            boolean read = call.matches();
            Due.due("a line is a call and its answer: " + line, read, true);
            if (read) {
                used.add(call.group(1));
                dueAnswer(x, line, call);
            }
        }
        Due.due("every method of the face is used: " + used, used.equals(face()), true);
        Due.end("ReadmeTest");
    }

    private static String[] runOfCalls() throws IOException {
        String text = Files.readString(Path.of("README.md"));
        String start = "```java\n";
        int from = text.indexOf(start) + start.length();
        return text.substring(from, text.indexOf("\n```", from)).split("\n");
    }

    private static void dueAnswer(DeltaSync x, String line, Matcher call) throws ReflectiveOperationException {
        Object got = called(x, call.group(1), call.group(2));
        String told = call.group(3);
        boolean isWord = told.equals("true") || told.equals("false");
        Due.due("a boolean is told as one: " + line, got instanceof Boolean, isWord);
        long answer = got instanceof Boolean yes ? (yes ? 1 : 0) : ((Integer) got).longValue();
        Due.due(line, answer, WORDS.containsKey(told) ? WORDS.get(told) : Long.parseLong(told));
        if (call.group(1).equals("delta")) {
            dueDelta(x, call.group(4));
        }
    }

    private static Object called(DeltaSync x, String name, String numbers) throws ReflectiveOperationException {
        String[] told = numbers.isEmpty() ? new String[0] : numbers.split(", ");
        Class<?>[] types = new Class<?>[told.length];
        Object[] values = new Object[told.length];
        for (int i = 0; i < told.length; i++) {
            types[i] = int.class;
            values[i] = Long.decode(told[i]).intValue();
        }
        return DeltaSync.class.getMethod(name, types).invoke(x, values);
    }

    private static void dueDelta(DeltaSync x, String told) {
        String[] bytes = told.split("[, ]+");
        Due.due("the delta's bytes are all told", x.size(2), bytes.length);
        for (int i = 0; i < bytes.length; i++) {
            Due.due("the delta's byte " + i, x.at(2, i), Integer.parseInt(bytes[i]));
        }
    }

    private static Set<String> face() {
        Set<String> names = new TreeSet<>();
        for (Method m : DeltaSync.class.getMethods()) {
            if (m.getDeclaringClass() == DeltaSync.class) {
                names.add(m.getName());
            }
        }
        return names;
    }
}
