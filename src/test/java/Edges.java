import java.util.ArrayList;
import java.util.Arrays;
import java.util.List;

/** The tests of edges, each under the sentence of the document that names the edge. */
final class Edges {
    /** A sentence, or a part of one, as it stands under a heading of the document. */
    record Sentence(String heading, String words) {
    }

    private static final int NONE = -1;
    /** The one sentence whose tests are run; null: all are. */
    private final Sentence only;
    private final List<Sentence> sentences = new ArrayList<>();
    private final List<Sentence> broken = new ArrayList<>();
    private final List<String> told = new ArrayList<>();
    private int checks = 0;
    private int checksBefore = 0;

    Edges() {
        this(null);
    }

    Edges(Sentence only) {
        this.only = only;
    }

    /** What comes behind this is tested under these words. */
    void sentence(String heading, String words) {
        end();
        sentences.add(new Sentence(heading, words));
        checksBefore = checks;
    }

    /** A sentence under which nothing was tested is as bad as one that does not hold. */
    void end() {
        if (isAsked() && checks == checksBefore) {
            blame("nothing is tested");
        }
    }

    private boolean isAsked() {
        return !sentences.isEmpty() && (only == null || only.equals(sentences.get(sentences.size() - 1)));
    }

    void run(String... rows) {
        if (!isAsked()) {
            return;
        }
        take(new Script().run(rows), String.join(" | ", rows));
    }

    /** A run that goes on behind the calls for which answers are promised. */
    void longRun(String... rows) {
        if (!isAsked()) {
            return;
        }
        take(new Script(Integer.MAX_VALUE).run(rows), String.join(" | ", rows));
    }

    /** The place of a text's fault; a text with one is refused, one without is not, and to ask changes nothing. */
    void fault(String text, int place) {
        int length = text.length();
        run("text " + text, "fault = " + place, "count 9 = " + length, "fault = " + place);
        if (place == NONE) {
            run("told " + text, "count 9 = 0");
        } else {
            run("text " + text, "hall = NOT", "count 9 = " + length, "fault = " + place);
        }
    }

    /** Whatever is asked behind a call, the answers are those that there would be without it. */
    void changesNothing(String[] before, String call, String[][] probes) {
        if (!isAsked()) {
            return;
        }
        for (String[] probe : probes) {
            List<Integer> without = answersBehind(before, null, probe);
            List<Integer> with = answersBehind(before, call, probe);
            checks++;
            if (!without.equals(with)) {
                blame(call + " changed something: " + String.join(" | ", before) + " | then " + String.join(" | ", probe)
                    + ": " + without + " without it, " + with + " with it");
            }
        }
    }

    private List<Integer> answersBehind(String[] before, String call, String[] probe) {
        Script script = new Script().run(before);
        if (call != null) {
            script.run(call);
        }
        int from = script.answers().size();
        script.run(probe);
        take(script, call + " behind " + String.join(" | ", before));
        return script.answers().subList(from, script.answers().size());
    }

    private void take(Script script, String what) {
        checks += script.checks();
        for (String each : script.wrongs()) {
            blame(each + "   in: " + what);
        }
    }

    private void blame(String what) {
        Sentence last = sentences.get(sentences.size() - 1);
        if (!broken.contains(last)) {
            broken.add(last);
            told.add("does not hold (" + last.heading() + "): " + last.words());
        }
        told.add("  " + what);
    }

    List<String> told() {
        return told;
    }

    List<Sentence> broken() {
        return broken;
    }

    List<Sentence> sentences() {
        return sentences;
    }

    int checks() {
        return checks;
    }

    static String[] rows(String[] first, String... more) {
        String[] all = Arrays.copyOf(first, first.length + more.length);
        System.arraycopy(more, 0, all, first.length, more.length);
        return all;
    }

    /** So many times the same clause. */
    static String clauses(int many, String clause) {
        return String.join(";", java.util.Collections.nCopies(many, clause));
    }
}
