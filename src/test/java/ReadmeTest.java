import java.lang.reflect.Method;
import java.lang.reflect.Modifier;
import java.nio.file.Files;
import java.nio.file.Path;
import java.util.HashMap;
import java.util.Map;
import java.util.regex.Matcher;
import java.util.regex.Pattern;

/** README.md's example is run as it stands there: a page that tells wrong answers is worse than none. */
public final class ReadmeTest {
    private static final Pattern CALL = Pattern.compile("(?m)^x\\.(\\w+)\\(([^)]*)\\);\\s*// (-?\\d+):");
    private static int wrong = 0;

    private static void hold(boolean so, String what) {
        if (so) return;
        wrong++;
        System.out.println(what);
    }

    public static void main(String[] args) throws Exception {
        String page = Files.readString(Path.of("README.md"));
        Map<String, Method> face = new HashMap<>();
        for (Method m : DarnedSock.class.getDeclaredMethods()) {
            if (Modifier.isPublic(m.getModifiers())) face.put(m.getName(), m);
        }
        for (String name : face.keySet()) hold(page.contains("`" + name + "`"), "README.md does not name " + name);
        DarnedSock x = new DarnedSock();
        Matcher call = CALL.matcher(page);
        int calls = 0;
        while (call.find()) {
            calls++;
            long got = answer(x, face.get(call.group(1)), call.group(2));
            hold(got == Long.parseLong(call.group(3)), call.group() + " answered " + got);
        }
        hold(calls == page.lines().filter(line -> line.startsWith("x.")).count(), "a call without its answer");
        hold(calls > 0, "README.md has no example");
        System.out.println(calls + " calls of README.md, " + wrong + " wrong");
        if (wrong != 0) System.exit(1);
    }

    private static long answer(DarnedSock x, Method m, String numbers) throws Exception {
        String[] parts = numbers.isBlank() ? new String[0] : numbers.split(",");
        Object[] values = new Object[parts.length];
        for (int i = 0; i < parts.length; i++) values[i] = Integer.valueOf(parts[i].trim());
        return ((Number) m.invoke(x, values)).longValue();
    }
}
