import com.sun.management.ThreadMXBean;
import java.io.IOException;
import java.lang.management.ManagementFactory;
import java.lang.reflect.Constructor;
import java.lang.reflect.Field;
import java.lang.reflect.Method;
import java.lang.reflect.Modifier;
import java.nio.charset.StandardCharsets;
import java.nio.file.Files;
import java.nio.file.Path;
import java.util.Arrays;
import java.util.List;
import java.util.Map;
import java.util.Set;
import java.util.TreeMap;
import java.util.TreeSet;
import java.util.regex.Matcher;
import java.util.regex.Pattern;
import java.util.stream.Collectors;

/** The public face, and of the rules of LANGUAGE.md what can be seen from outside or in the source. */
public final class LanguageTest {
    private static final Path SOURCE = Path.of("src/main/java/CowardsPot.java");
    private static final Set<String> FACE = new TreeSet<>(List.of("write/1", "erase/0", "fault/0", "hall/0", "person/2",
        "sort/2", "as/2", "deed/2", "feast/0", "year/0", "scale/2", "undo/0", "keep/1", "back/1", "gets/1", "need/2",
        "deeds/3", "seen/2", "forget/0", "scales/1", "tells/0", "chance/5", "count/1"));
    private static int wrong = 0;

    private static void check(boolean isSo, String what) {
        if (!isSo) {
            wrong++;
            System.out.println("not so: " + what);
        }
    }

    public static void main(String[] args) throws IOException {
        face();
        for (Class<?> inside : CowardsPot.class.getDeclaredClasses()) {
            classInside(inside);
        }
        check(CowardsPot.class.getDeclaredClasses().length < 12, "rule 11: some twelve classes");
        String source = Files.readString(SOURCE, StandardCharsets.ISO_8859_1);
        words(source);
        lengths(source);
        loops(source);
        depths(source);
        room();
        System.out.println("face and language: " + wrong + " wrong");
        if (wrong != 0) {
            System.exit(1);
        }
    }

    private static void face() {
        Class<?> pot = CowardsPot.class;
        check(Modifier.isPublic(pot.getModifiers()) && Modifier.isFinal(pot.getModifiers()), "public and final");
        Set<String> met = new TreeSet<>();
        for (Method method : pot.getDeclaredMethods()) {
            if (Modifier.isPrivate(method.getModifiers())) {
                check(FACE.stream().noneMatch(each -> each.startsWith(method.getName() + "/")),
                    "rule 1: private " + method.getName() + " bears no public name");
            } else {
                met.add(method.getName() + "/" + method.getParameterCount());
                check(Modifier.isPublic(method.getModifiers()) && !Modifier.isStatic(method.getModifiers()),
                    method.getName() + " is public and not static");
                check(method.getReturnType() == int.class
                    && Arrays.stream(method.getParameterTypes()).allMatch(type -> type == int.class),
                    method.getName() + " is of ints");
            }
        }
        check(met.equals(FACE), "the methods of the face: " + met);
        Constructor<?>[] made = pot.getDeclaredConstructors();
        check(made.length == 1 && Modifier.isPublic(made[0].getModifiers()) && made[0].getParameterCount() == 0,
            "one constructor, public");
        for (Field field : pot.getDeclaredFields()) {
            boolean isConstant = List.of("NONE", "UNKNOWN", "OUTSIDE", "NOT", "FULL").contains(field.getName());
            check(isConstant ? Modifier.isPublic(field.getModifiers()) : Modifier.isPrivate(field.getModifiers()),
                "rule 1: field " + field.getName());
            staticField(field);
        }
    }

    private static void staticField(Field field) {
        if (Modifier.isStatic(field.getModifiers())) {
            check(Modifier.isFinal(field.getModifiers()), "rule 5: static " + field.getName() + " is final");
            check(field.getType() == int.class || field.getType() == int[].class, "rule 5: type of " + field.getName());
        }
    }

    private static void classInside(Class<?> inside) {
        check(Modifier.isStatic(inside.getModifiers()), "rule 2: " + inside.getName() + " is static");
        check(Modifier.isPrivate(inside.getModifiers()), "rule 1: " + inside.getName() + " is private");
        check(Modifier.isFinal(inside.getModifiers()), "rule 12: nothing that " + inside.getName() + " calls is overridden");
        check(inside.getDeclaredFields().length <= 20, "rule 11: fields of " + inside.getName());
        Arrays.stream(inside.getDeclaredFields()).forEach(LanguageTest::staticField);
        for (Method method : inside.getDeclaredMethods()) {
            check(method.getParameterCount() <= 7, "rule 11: parameters of " + method.getName());
            check(FACE.stream().noneMatch(each -> each.startsWith(method.getName() + "/")),
                "rule 1: " + method.getName() + " bears no public name");
        }
    }

    private static void words(String source) {
        String bare = source.replaceAll("(?s)/\\*.*?\\*/", " ").replaceAll("//[^\n]*", " ");
        for (String word : List.of("throw", "throws", "try", "catch", "finally", "synchronized", "assert", "import",
            "package", "volatile", "native", "strictfp", "equals", "hashCode", "toString", "Object", "lambda", "var",
            "double", "float", "Exact", "getClass", "Class", "Thread", "Runtime", "protected")) {
            check(!Pattern.compile("\\b" + word + "\\b").matcher(bare).find(), "no '" + word + "'");
        }
        for (String sign : List.of("->", "::", "@", "...")) {
            check(!bare.contains(sign), "no '" + sign + "'");
        }
        check(source.chars().allMatch(letter -> letter == '\n' || letter >= 32 && letter < 127), "plain letters alone");
        Matcher library = Pattern.compile("\\b([A-Z][a-z]+)\\.([a-zA-Z]+)").matcher(bare);
        while (library.find()) {
            check(List.of("Math.min", "Math.max", "Integer.bitCount", "System.arraycopy").contains(library.group()),
                "rule 4: " + library.group());
        }
    }

    private static void lengths(String source) {
        List<String> lines = source.lines().collect(Collectors.toList());
        Pattern head = Pattern.compile("^( {4}| {8})[a-zA-Z].*\\) \\{$");
        for (int i = 0; i < lines.size(); i++) {
            Matcher matcher = head.matcher(lines.get(i));
            if (matcher.find()) {
                int end = i;
                while (end < lines.size() && !lines.get(end).equals(matcher.group(1) + "}")) {
                    end++;
                }
                check(end - i < 60, "rule 11: length of " + lines.get(i).trim());
            }
        }
    }

    /** The end of each loop stands in its own row. */
    private static void loops(String source) {
        source.lines().map(String::trim).filter(row -> row.matches("(for|while|do)\\b.*")).forEach(row -> check(
            row.matches("for \\(int (\\w+) = [^;]+; \\1 (<|<=|>|>=) [^;]+; \\1(\\+\\+|--)\\) \\{|while \\(\\w+ < text\\.length && .*"),
            "rule 9: the end of " + row));
    }

    /** No method calls itself, by itself or through others, and no call goes more than eight deep. */
    private static void depths(String source) {
        Map<String, Set<String>> calls = new TreeMap<>();
        List<String> lines = source.lines().collect(Collectors.toList());
        Pattern head = Pattern.compile("^(?: {4}| {8})(?:[a-z]+ )*\\w+(?:\\[\\])? (\\w+)\\([^)]*\\) \\{$");
        String method = null;
        for (String line : lines) {
            Matcher matcher = head.matcher(line);
            if (matcher.find()) {
                method = matcher.group(1);
                calls.computeIfAbsent(method, name -> new TreeSet<>());
            } else if (method != null) {
                Matcher called = Pattern.compile("\\b(\\w+)\\(").matcher(line);
                while (called.find()) {
                    calls.get(method).add(called.group(1));
                }
            }
        }
        check(calls.keySet().containsAll(List.of("write", "count", "serveInto", "mostAlike")), "rule 11: methods are found");
        for (String name : calls.keySet()) {
            check(depth(calls, name, 0) <= 8, "rules 8, 11: " + name + " goes too deep, or calls itself");
        }
    }

    private static int depth(Map<String, Set<String>> calls, String method, int above) {
        int deepest = above + 1;
        if (above <= 8) {
            for (String called : calls.get(method)) {
                if (calls.containsKey(called)) {
                    deepest = Math.max(deepest, depth(calls, called, above + 1));
                }
            }
        }
        return deepest;
    }

    /** Calls make no objects: all rows are made in the constructor. */
    private static void room() {
        ThreadMXBean bean = (ThreadMXBean) ManagementFactory.getThreadMXBean();
        long thread = Thread.currentThread().getId();
        CowardsPot pot = new CowardsPot();
        everyCall(pot);
        long before = bean.getThreadAllocatedBytes(thread);
        for (int i = 0; i < 20; i++) {
            everyCall(pot);
        }
        long made = bean.getThreadAllocatedBytes(thread) - before;
        check(made < 4096, "rule 12: calls make nothing, but it was " + made + " bytes");
        before = bean.getThreadAllocatedBytes(thread);
        new CowardsPot();
        made = bean.getThreadAllocatedBytes(thread) - before;
        check(made < 20000, "an object is small, but it is " + made + " bytes");
    }

    private static void everyCall(CowardsPot pot) {
        String text = "hall 9;hero 9;child 9;boaster 9;modest 50;hero 40;hero 60;"
            + "sort 1 1;sort 2 2;sort 3 0;sort 9 9;sort 8 8;sort 5 0";
        pot.erase();
        for (int i = 0; i < text.length(); i++) {
            pot.write(text.charAt(i));
        }
        pot.fault();
        pot.hall();
        for (int i = 0; i < 10; i++) {
            pot.person(i, i);
            pot.sort(i, 1);
            pot.as(0, i);
            pot.deed(1, i);
            pot.feast();
            pot.year();
            pot.scale(i, i);
            pot.keep(i);
            pot.gets(i);
            pot.need(0, i);
            pot.deeds(0, i, 0);
            pot.seen(i, i);
            pot.scales(i);
            pot.tells();
            pot.chance(0, i, i, i, 0);
            pot.count(i);
            pot.undo();
            pot.back(i);
        }
        pot.forget();
    }
}
