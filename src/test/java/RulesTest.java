import java.lang.reflect.Array;
import java.lang.reflect.Constructor;
import java.lang.reflect.Field;
import java.lang.reflect.Method;
import java.lang.reflect.Modifier;
import java.nio.file.Files;
import java.nio.file.Path;
import java.util.ArrayList;
import java.util.Collections;
import java.util.IdentityHashMap;
import java.util.List;
import java.util.Set;
import java.util.TreeSet;
import java.util.regex.Matcher;
import java.util.regex.Pattern;

/** The face of the class, and those rules of LANGUAGE.md that can be seen from its text and its shape. */
public final class RulesTest {
    private static final Path SOURCE = Path.of("src/main/java/DarnedSock.java");
    private static final String[] FACE = {
        "int sock(int)", "int wear(int,int)", "int darn(int,int,int,int)", "int unpick(int)", "int years(int)", "int undo()",
        "int type(int)", "int clear()", "int read()", "int of(int,int,int)", "int cell(int,int)", "int claims(int,int)",
        "int owner(int,int)", "int laws(int)", "int share(int)", "int twos(int)", "int whole()", "int holes(int)",
        "int best(int,int,int)", "int split(int,int,int)", "int reading(int,int,int)", "int forget()", "int may(int)",
        "int look(int)", "int orders(int,int)", "int odds(int,int,int)", "int drawn(int,int)", "long part(int)",
        "int image(int)", "int from(int)", "int status(int)", "int count(int)", "long digest()"
    };
    private static final String[] WORDS = {
        "throw", "throws", "try", "catch", "synchronized", "assert", "import", "package", "protected", "volatile", "native",
        "Object", "Thread", "Random", "System.out", "System.currentTimeMillis", "System.nanoTime", "float", "double", "hashCode", "toString"
    };
    private static int wrong = 0;

    private static void hold(boolean so, String rule) {
        if (so) return;
        wrong++;
        System.out.println("broken: " + rule);
    }

    public static void main(String[] args) throws Exception {
        face();
        shapes();
        text(Files.readString(SOURCE));
        room(Files.readString(SOURCE));
        System.out.println(wrong == 0 ? "the rules hold" : wrong + " rules are broken");
        if (wrong != 0) System.exit(1);
    }

    private static void face() {
        Class<?> it = DarnedSock.class;
        hold(Modifier.isPublic(it.getModifiers()) && Modifier.isFinal(it.getModifiers()), "1: public and final");
        Constructor<?>[] makers = it.getDeclaredConstructors();
        hold(makers.length == 1 && makers[0].getParameterCount() == 0 && Modifier.isPublic(makers[0].getModifiers()), "1: one constructor");
        Set<String> due = new TreeSet<>(List.of(FACE)), got = new TreeSet<>(), names = new TreeSet<>();
        for (Method m : it.getDeclaredMethods()) {
            if (!Modifier.isPublic(m.getModifiers())) continue;
            hold(!Modifier.isStatic(m.getModifiers()), "1: static " + m);
            names.add(m.getName());
            List<String> types = new ArrayList<>();
            for (Class<?> p : m.getParameterTypes()) types.add(p.getName());
            got.add(m.getReturnType().getName() + " " + m.getName() + "(" + String.join(",", types) + ")");
        }
        hold(due.equals(got), "1: the public methods are " + got);
        for (Method m : it.getDeclaredMethods()) {
            boolean open = Modifier.isPublic(m.getModifiers());
            hold(open || Modifier.isPrivate(m.getModifiers()), "1: neither public nor private: " + m);
            hold(open || !names.contains(m.getName()), "1: a private method with a public one's name: " + m);
        }
        for (Field f : it.getDeclaredFields()) {
            boolean constant = Set.of("NONE", "BAD", "NO", "FULL").contains(f.getName());
            hold(constant ? Modifier.isPublic(f.getModifiers()) : Modifier.isPrivate(f.getModifiers()), "1: " + f);
        }
        for (Class<?> inside : it.getDeclaredClasses()) {
            for (Method m : inside.getDeclaredMethods()) hold(!names.contains(m.getName()), "1: a method inside with a public one's name: " + m);
        }
    }

    private static void shapes() {
        List<Class<?>> all = new ArrayList<>(List.of(DarnedSock.class.getDeclaredClasses()));
        hold(all.size() <= 12, "11: classes");
        for (Class<?> c : all) hold(Modifier.isStatic(c.getModifiers()) && !Modifier.isPublic(c.getModifiers()), "1: " + c);
        all.add(DarnedSock.class);
        for (Class<?> c : all) {
            int fields = 0;
            for (Field f : c.getDeclaredFields()) {
                if (Modifier.isStatic(f.getModifiers())) hold(Modifier.isFinal(f.getModifiers()), "5: " + f);
                else fields++;
            }
            hold(fields <= 20, "11: fields of " + c);
            for (Method m : c.getDeclaredMethods()) hold(m.getParameterCount() <= 7, "11: parameters of " + m);
        }
    }

    private static void text(String source) {
        String bare = source.replaceAll("(?s)/\\*.*?\\*/", "").replaceAll("//[^\n]*", "").replaceAll("\"[^\"\n]*\"", "\"\"");
        for (String word : WORDS) {
            hold(!Pattern.compile("(?<![A-Za-z])" + Pattern.quote(word) + "(?![A-Za-z])").matcher(bare).find(), "4, 6, 13: " + word);
        }
        hold(!bare.contains("->") && !bare.contains("::") && !bare.contains("Exact"), "2, 4: lambda, reference or Exact");
        hold(!Pattern.compile("while \\(true\\)|for \\(;;\\)").matcher(bare).find(), "9: a loop without an end");
        for (char sign : source.toCharArray()) hold(sign < 127, "4: sign " + (int) sign);
        Matcher library = Pattern.compile("\\b(System|Math|Integer|Long|Arrays)\\.(\\w+)").matcher(bare);
        while (library.find()) {
            hold(Set.of("System.arraycopy", "Math.min", "Math.max", "Integer.bitCount").contains(library.group()), "4: " + library.group());
        }
        Matcher head = Pattern.compile("(?m)^( {4}| {8})[A-Za-z][^;=\n]*\\) \\{\n").matcher(source);
        while (head.find()) {
            int end = source.indexOf("\n" + head.group(1) + "}\n", head.end());
            long lines = source.substring(head.end(), Math.max(end, head.end())).lines().count();
            hold(lines <= 60, "11: " + lines + " lines in " + head.group().trim());
        }
    }

    /** What a run may make is counted: a sock makes its rows once, and no call makes more but an image. */
    private static void room(String source) throws Exception {
        DarnedSock x = new DarnedSock();
        x.image(0);
        x.image(1);
        Set<Object> met = Collections.newSetFromMap(new IdentityHashMap<>());
        long parts = partsOf(x, met);
        hold(met.size() <= 40, "12: objects of a sock with both images: " + met.size());
        hold(parts <= 5000, "12: fields and elements of a sock with both images: " + parts);
        for (String line : source.split("\n")) {
            boolean field = line.matches(" {4,8}(private )?final .* = new .*;");
            boolean image = line.trim().equals("image = new State();");
            hold(field || image || !line.contains("new "), "12: made in a call: " + line.trim());
        }
    }

    private static long partsOf(Object it, Set<Object> met) throws Exception {
        if (it == null || !met.add(it)) return 0;
        long parts = 0;
        if (it.getClass().isArray()) {
            parts = Array.getLength(it);
            boolean numbers = it.getClass().getComponentType().isPrimitive();
            for (int i = 0; !numbers && i < Array.getLength(it); i++) parts += partsOf(Array.get(it, i), met);
            return parts;
        }
        for (Field f : it.getClass().getDeclaredFields()) {
            if (Modifier.isStatic(f.getModifiers())) continue;
            parts++;
            f.setAccessible(true);
            if (!f.getType().isPrimitive()) parts += partsOf(f.get(it), met);
        }
        return parts;
    }
}
