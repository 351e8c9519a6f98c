import java.lang.management.ManagementFactory;
import java.lang.reflect.Field;
import java.lang.reflect.Method;
import java.lang.reflect.Modifier;
import java.nio.file.Files;
import java.nio.file.Path;
import java.util.ArrayList;
import java.util.Arrays;
import java.util.HashSet;
import java.util.List;
import java.util.Set;
import java.util.TreeSet;
import java.util.regex.Matcher;
import java.util.regex.Pattern;

/** What of LANGUAGE.md can be seen from the source's text, from the class, and from what a run makes. */
public final class RulesTest {
    private static final Path SOURCE = Path.of("src/main/java/NotAtOnce.java");
    private static final String[] FACE = {
        "int feed(int,int,int,int,int)", "int book(int)", "int fault()", "int where()", "int share(boolean)",
        "int together(int,int,int,int,boolean,boolean)", "int extend(int,int)", "int level()", "int hidden()",
        "int answer(int)", "int disturbed()", "int same(int)", "int cycles()", "int cycle(int)", "int excess(int)",
        "int widest()", "boolean stake(int,int,int)", "int wins()", "int worst()", "int worstAt()", "int bars()",
        "int fair(boolean)", "int ways()", "int forced(int)", "int core()", "int can(int)", "int game()",
        "int square(int,int)", "int corners()", "int colours()", "int ones()", "int spare()", "int critical()",
        "int memory()", "int machine(int,int,boolean)", "boolean flip(int)", "boolean drop(int)", "boolean forget(int)",
        "boolean shift(int,int,int,int)", "boolean undo()", "boolean redo()", "int mark()", "boolean back(int)",
        "int act(int,int)", "int times(int,int)", "int look(int,boolean)", "int coins(int,int)", "int led(int)",
        "int size(int)", "int trouble()"};
    private static final String[] BARRED = {"package", "catch", "try", "finally", "synchronized", "assert", "double",
        "float", "Thread", "Object", "interface", "volatile", "native", "transient", "protected", "strictfp", "var",
        "enum", "record", "instanceof", "yield", "default ->"};

    private static int wrong = 0;

    public static void main(String[] args) throws Exception {
        List<String> lines = Files.readAllLines(SOURCE);
        String code = withoutComments(String.join("\n", lines));
        text(code);
        methods(code);
        face();
        classes();
        room();
        System.out.println(wrong == 0 ? "the rules that can be seen are kept" : wrong + " rules are broken");
        if (wrong != 0) {
            System.exit(1);
        }
    }

    private static void text(String code) {
        for (String word : BARRED) {
            must(!Pattern.compile("\\b" + word + "\\b").matcher(code).find(), "the word " + word);
        }
        must(!code.contains("->") && !code.contains("::"), "a lambda or a method reference");
        must(!code.contains("Exact("), "a function that ends in Exact");
        must(code.chars().allMatch(c -> c < 127), "a sign above 126");
        must(code.split("import ").length == 2 && code.contains("import java.util.NoSuchElementException;"), "an import");
        must(code.split("throw new ").length == 2, "a throw but that of led");
        Set<String> called = new TreeSet<>();
        Matcher matcher = Pattern.compile("\\b(Math|Integer|Long|System|Arrays|String|List)\\.(\\w+)").matcher(code);
        while (matcher.find()) {
            called.add(matcher.group());
        }
        called.removeAll(List.of("Math.abs", "Math.max", "Math.min", "Integer.bitCount", "System.arraycopy"));
        must(called.isEmpty(), "library calls " + called);
    }

    /** Each method short and of few parameters, and rows made in constructors and fields alone. */
    private static void methods(String code) {
        String[] lines = code.split("\n");
        Pattern head = Pattern.compile("^( {4}| {8})(?:\\w+(?:\\[\\])* )*(\\w+)\\(([^)]*)\\)(?: throws \\w+)? \\{$");
        int from = -1;
        String indent = "";
        String name = "";
        for (int i = 0; i < lines.length; i++) {
            Matcher matcher = head.matcher(lines[i]);
            if (from < 0 && matcher.find()) {
                from = i;
                indent = matcher.group(1);
                name = matcher.group(2);
                must(matcher.group(3).split(",").length <= 7, "more than seven parameters: " + name);
            } else if (from >= 0 && lines[i].equals(indent + "}")) {
                must(i - from < 60, "a method that is long: " + name);
                from = -1;
            } else if (from >= 0 && lines[i].contains("new ")) {
                boolean constructor = Character.isUpperCase(name.charAt(0));
                must(constructor || lines[i].contains("throw new "), "something made by a call: " + name);
            }
        }
    }

    private static void face() {
        Set<String> due = new TreeSet<>(Arrays.asList(FACE));
        Set<String> found = new TreeSet<>();
        Set<String> names = new HashSet<>();
        for (Method method : NotAtOnce.class.getDeclaredMethods()) {
            if (Modifier.isPublic(method.getModifiers())) {
                List<String> types = new ArrayList<>();
                for (Class<?> type : method.getParameterTypes()) {
                    types.add(type.getName());
                }
                found.add(method.getReturnType() + " " + method.getName() + "(" + String.join(",", types) + ")");
                names.add(method.getName());
            }
        }
        must(found.equals(due), "the face is " + found);
        must(Modifier.isFinal(NotAtOnce.class.getModifiers()), "the class is not final");
        must(NotAtOnce.class.getDeclaredConstructors().length == 1, "more constructors");
        List<Class<?>> all = new ArrayList<>(List.of(NotAtOnce.class.getDeclaredClasses()));
        all.add(NotAtOnce.class);
        for (Class<?> type : all) {
            for (Method method : type.getDeclaredMethods()) {
                must(Modifier.isPublic(method.getModifiers()) || !names.contains(method.getName()),
                    "another method bears a name of the face: " + method);
            }
        }
    }

    private static void classes() {
        Class<?>[] inner = NotAtOnce.class.getDeclaredClasses();
        must(inner.length <= 11, "many classes");
        for (Class<?> type : inner) {
            must(Modifier.isPrivate(type.getModifiers()) && Modifier.isStatic(type.getModifiers()), "not private: " + type);
            fields(type);
        }
        fields(NotAtOnce.class);
        for (Field field : NotAtOnce.class.getDeclaredFields()) {
            boolean none = field.getName().equals("NONE");
            must(Modifier.isPrivate(field.getModifiers()) || none, "a field that can be seen: " + field);
        }
    }

    private static void fields(Class<?> type) {
        int own = 0;
        for (Field field : type.getDeclaredFields()) {
            boolean shared = Modifier.isStatic(field.getModifiers());
            must(!shared || Modifier.isFinal(field.getModifiers()), "static state: " + field);
            own += shared ? 0 : 1;
        }
        must(own <= 20, "many fields: " + type);
    }

    /** An object is some thousand elements; a call makes nothing (a machine may count a little of its own). */
    private static void room() {
        com.sun.management.ThreadMXBean bean = (com.sun.management.ThreadMXBean) ManagementFactory.getThreadMXBean();
        NotAtOnce warm = new NotAtOnce();
        long calls = calls(warm, bean);
        calls = Math.min(calls, calls(warm, bean));
        must(calls < 2000, "the calls made " + calls + " bytes");
        long before = bean.getCurrentThreadAllocatedBytes();
        new NotAtOnce();
        long made = bean.getCurrentThreadAllocatedBytes() - before;
        must(made < 48000, "an object is " + made + " bytes");
    }

    private static long calls(NotAtOnce x, com.sun.management.ThreadMXBean bean) {
        long before = bean.getCurrentThreadAllocatedBytes();
        x.feed(0x6c617720, 0x6f662034, 0x3b6c6f6f, 0x6b20612c, 0x622c633b);
        x.feed(0x73657420, 0x612c6220, 0x74656c6c, 0x7320312c, 0x312c312c);
        x.feed(0x313b7365, 0x7420622c, 0x63207465, 0x6c6c7320, 0x322c302c);
        x.feed(0x302c323b, 0x72756e20, 0x6120312c, 0x6220303b, 0x72617920);
        x.feed(0x312c302c, 0x302c3020, 0x20202020, 0x20202020, 0x20202020);
        int sum = x.book(100);
        if (sum != 3) {
            must(false, "the book of this test");
        }
        sum += x.share(true) + x.together(0, 1, 2, 1, true, true) + x.level() + x.hidden() + x.answer(1) + x.cycles()
            + x.widest() + x.wins() + x.worst() + x.fair(true) + x.core() + x.colours() + x.critical() + x.memory()
            + x.machine(0, 0, true) + x.disturbed() + x.extend(0, 0);
        x.flip(0);
        x.shift(0, 0, 1, 1);
        x.forget(1);
        x.drop(0);
        x.undo();
        x.redo();
        x.mark();
        x.back(0);
        sum += x.share(false);
        return bean.getCurrentThreadAllocatedBytes() - before - (sum == 0 ? 1 : 0);
    }

    private static String withoutComments(String code) {
        return code.replaceAll("(?s)/\\*.*?\\*/", "").replaceAll("//[^\n]*", "");
    }

    private static void must(boolean kept, String what) {
        if (!kept) {
            wrong++;
            System.out.println("not kept: " + what);
        }
    }
}
