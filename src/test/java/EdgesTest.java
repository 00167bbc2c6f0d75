import java.io.IOException;
import java.nio.charset.StandardCharsets;
import java.nio.file.Files;
import java.nio.file.Path;

/**
 * For each sentence of the document a test of its own, above all of the edges that it names; and the proof that no
 * sentence was left out: what the tests quote, taken out of the document, leaves nothing over.
 */
public final class EdgesTest {
    private static final Path DOCUMENT = Path.of("../shared/DOC.md");
    private static int left = 0;

    public static void main(String[] args) throws IOException {
        Edges edges = tellAll(new Edges());
        edges.told().forEach(System.out::println);
        noSentenceIsLeft(edges, Files.readString(DOCUMENT, StandardCharsets.UTF_8));
        int wrong = edges.broken().size() + left;
        System.out.println(edges.sentences().size() + " sentences, " + edges.checks() + " checks, " + wrong + " wrong");
        if (wrong != 0) {
            System.exit(1);
        }
    }

    static Edges tellAll(Edges edges) {
        TextEdges.tell(edges);
        FeastEdges.tell(edges);
        ForetoldEdges.tell(edges);
        CallEdges.tell(edges);
        RefusalEdges.tell(edges);
        edges.end();
        return edges;
    }

    /** Whether one sentence holds, by its own tests alone; called by name for a broken class. */
    public static boolean holds(String heading, String words) {
        return tellAll(new Edges(new Edges.Sentence(heading, words))).broken().isEmpty();
    }

    private static void noSentenceIsLeft(Edges edges, String document) {
        for (String part : document.split("(?m)^## ")) {
            String heading = part.lines().findFirst().orElse("");
            String name = heading.replaceAll(":.*", "");
            if (name.equals("What it is") || name.equals("Terms") || name.startsWith("Promise ")) {
                String words = withoutFrame(part.substring(heading.length()));
                for (Edges.Sentence each : edges.sentences()) {
                    if (each.heading().equals(name)) {
                        words = without(words, each);
                    }
                }
                leftOver(name, words);
            }
        }
    }

    /** The words of a part, but for marks, the form of the call, and the tale at the beginning. */
    private static String withoutFrame(String part) {
        return part.replaceAll("(?m)^```.*$", " ").replaceAll("Ahead of the calls [^\n]*", " ")
            .replaceAll("(?m)^`int [^`]*`:|^`CowardsPot\\(\\)`:", " ").replaceAll("It will not boil [^=]*", " ")
            .replaceAll("======== [123]", " ").replaceAll("\\s+", " ").trim();
    }

    /** A quoted word stays open for a second quote, in that its place is blackened and not closed up. */
    private static String without(String words, Edges.Sentence sentence) {
        int at = words.indexOf(sentence.words());
        if (at < 0) {
            left++;
            System.out.println("not in the document (" + sentence.heading() + "), or told twice: " + sentence.words());
            return words;
        }
        return words.substring(0, at) + "#" + words.substring(at + sentence.words().length());
    }

    private static void leftOver(String heading, String words) {
        if (words.matches("(?s).*[a-zA-Z0-9].*")) {
            left++;
            System.out.println("not tested (" + heading + "): " + words);
        }
    }
}
