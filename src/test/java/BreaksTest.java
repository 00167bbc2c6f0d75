import java.io.ByteArrayOutputStream;
import java.io.IOException;
import java.net.URL;
import java.net.URLClassLoader;
import java.nio.charset.StandardCharsets;
import java.nio.file.Files;
import java.nio.file.Path;
import java.util.ArrayList;
import java.util.Comparator;
import java.util.List;
import java.util.concurrent.ExecutionException;
import java.util.concurrent.ExecutorService;
import java.util.concurrent.Executors;
import java.util.concurrent.Future;
import java.util.concurrent.TimeUnit;
import java.util.concurrent.TimeoutException;
import java.util.stream.Collectors;
import java.util.stream.Stream;
import javax.tools.JavaCompiler;
import javax.tools.ToolProvider;

/**
 * The tests of EdgesTest, tested: src/test/breaks.txt breaks the class, sentence by sentence of the document, and the
 * sentence's own tests must see it. Each sentence has a break at least.
 */
public final class BreaksTest {
    private static final Path SOURCE = Path.of("src/main/java/CowardsPot.java");
    private static final Path BREAKS = Path.of("src/test/breaks.txt");
    private static final JavaCompiler COMPILER = ToolProvider.getSystemJavaCompiler();

    /** What is changed in the class: rows that stand there one below the other, and what stands there instead. */
    private record Hunk(List<String> old, List<String> instead) {
    }

    private record Break(Edges.Sentence sentence, int row, List<Hunk> hunks) {
    }

    private final List<String> source;
    private final List<Edges.Sentence> sentences;
    private final Path room;

    private BreaksTest(Path room) throws IOException {
        source = Files.readAllLines(SOURCE, StandardCharsets.ISO_8859_1);
        sentences = EdgesTest.tellAll(new Edges(new Edges.Sentence("", ""))).sentences();
        this.room = room;
    }

    public static void main(String[] args) throws IOException, InterruptedException {
        Path room = Files.createTempDirectory("breaks");
        int wrong;
        try {
            wrong = new BreaksTest(room).run();
        } finally {
            try (Stream<Path> all = Files.walk(room)) {
                all.sorted(Comparator.reverseOrder()).forEach(each -> each.toFile().delete());
            }
        }
        System.exit(wrong == 0 ? 0 : 1);
    }

    private int run() throws IOException, InterruptedException {
        List<Break> breaks = read(Files.readAllLines(BREAKS, StandardCharsets.ISO_8859_1));
        List<String> wrongs = new ArrayList<>();
        for (Edges.Sentence each : sentences) {
            if (breaks.stream().noneMatch(one -> one.sentence().equals(each))) {
                wrongs.add("no break of (" + each.heading() + "): " + each.words());
            }
        }
        ExecutorService workers = Executors.newFixedThreadPool(Runtime.getRuntime().availableProcessors(), BreaksTest::daemon);
        List<Future<String>> answers = new ArrayList<>();
        for (Break each : breaks) {
            answers.add(workers.submit(() -> wrongOf(each)));
        }
        for (int i = 0; i < breaks.size(); i++) {
            String wrong = answerOf(answers.get(i));
            if (wrong != null) {
                wrongs.add("breaks.txt, row " + breaks.get(i).row() + ": " + wrong);
            }
        }
        wrongs.forEach(System.out::println);
        System.out.println(breaks.size() + " breaks of " + sentences.size() + " sentences, " + wrongs.size() + " wrong");
        return wrongs.size();
    }

    private static Thread daemon(Runnable task) {
        Thread thread = new Thread(task);
        thread.setDaemon(true);
        return thread;
    }

    /** A broken class that does not end is seen too, in that the tests do not end. */
    private static String answerOf(Future<String> answer) throws InterruptedException {
        try {
            return answer.get(60, TimeUnit.SECONDS);
        } catch (TimeoutException late) {
            return null;
        } catch (ExecutionException thrown) {
            return "threw " + thrown.getCause();
        }
    }

    /** A break: 'heading: beginning of the sentence', then rows '-' to go, '+' to come, ' ' to stay, '@' between places. */
    private List<Break> read(List<String> rows) {
        List<Break> breaks = new ArrayList<>();
        for (int i = 0; i < rows.size(); i++) {
            String row = rows.get(i);
            if (!row.isBlank() && !row.startsWith("#")) {
                int at = i + 1;
                List<String> body = new ArrayList<>();
                while (at < rows.size() && !rows.get(at).isEmpty() && " -+@".indexOf(rows.get(at).charAt(0)) >= 0) {
                    body.add(rows.get(at));
                    at++;
                }
                breaks.add(new Break(sentenceOf(row), i + 1, hunks(body)));
                i = at - 1;
            }
        }
        return breaks;
    }

    private Edges.Sentence sentenceOf(String row) {
        int colon = row.indexOf(": ");
        String heading = row.substring(0, Math.max(0, colon));
        String words = row.substring(colon + 2);
        List<Edges.Sentence> found = sentences.stream()
            .filter(each -> each.heading().equals(heading) && each.words().startsWith(words)).collect(Collectors.toList());
        return found.size() == 1 ? found.get(0) : null;
    }

    private static List<Hunk> hunks(List<String> body) {
        List<Hunk> hunks = new ArrayList<>();
        hunks.add(new Hunk(new ArrayList<>(), new ArrayList<>()));
        for (String row : body) {
            if (row.startsWith("@")) {
                hunks.add(new Hunk(new ArrayList<>(), new ArrayList<>()));
            } else {
                Hunk hunk = hunks.get(hunks.size() - 1);
                if (!row.startsWith("+")) {
                    hunk.old().add(row.substring(1).trim());
                }
                if (!row.startsWith("-")) {
                    hunk.instead().add(row.substring(1).trim());
                }
            }
        }
        return hunks;
    }

    private String wrongOf(Break each) throws IOException, ReflectiveOperationException {
        if (each.sentence() == null) {
            return "no sentence, or several, begin so";
        }
        List<String> broken = new ArrayList<>(source);
        for (Hunk hunk : each.hunks()) {
            List<Integer> places = placesOf(hunk.old(), broken);
            if (places.size() != 1 || hunk.old().isEmpty()) {
                return "these rows stand at " + places.size() + " places of the class: " + hunk.old();
            }
            List<String> span = broken.subList(places.get(0), places.get(0) + hunk.old().size());
            span.clear();
            span.addAll(hunk.instead());
        }
        return holds(each, compile(each, broken)) ? "the tests do not see it: " + each.sentence().words() : null;
    }

    private static List<Integer> placesOf(List<String> rows, List<String> in) {
        List<Integer> places = new ArrayList<>();
        for (int at = 0; at + rows.size() <= in.size(); at++) {
            boolean isThere = true;
            for (int i = 0; i < rows.size() && isThere; i++) {
                isThere = in.get(at + i).trim().equals(rows.get(i));
            }
            if (isThere) {
                places.add(at);
            }
        }
        return places;
    }

    private Path compile(Break each, List<String> broken) throws IOException {
        Path dir = Files.createDirectory(room.resolve("row" + each.row()));
        Path file = Files.write(dir.resolve("CowardsPot.java"), broken, StandardCharsets.ISO_8859_1);
        ByteArrayOutputStream said = new ByteArrayOutputStream();
        if (COMPILER.run(null, said, said, "-proc:none", "-d", dir.toString(), file.toString()) != 0) {
            throw new IllegalStateException("it does not compile: " + said.toString().lines().limit(3).collect(Collectors.toList()));
        }
        return dir;
    }

    private static boolean holds(Break each, Path dir) throws IOException, ReflectiveOperationException {
        List<URL> places = new ArrayList<>();
        places.add(dir.toUri().toURL());
        for (String place : System.getProperty("java.class.path").split(java.io.File.pathSeparator)) {
            places.add(Path.of(place).toUri().toURL());
        }
        try (URLClassLoader loader = new URLClassLoader(places.toArray(new URL[0]), ClassLoader.getPlatformClassLoader())) {
            return (Boolean) loader.loadClass("EdgesTest").getMethod("holds", String.class, String.class)
                .invoke(null, each.sentence().heading(), each.sentence().words());
        }
    }
}
