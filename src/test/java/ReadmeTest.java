import java.io.IOException;
import java.nio.file.Files;
import java.nio.file.Path;
import java.util.ArrayList;
import java.util.List;
import java.util.regex.Matcher;
import java.util.regex.Pattern;
import java.util.stream.Stream;

/** What README.md says of the class and of its tests is so. */
public final class ReadmeTest {
    private static final Pattern TEXT = Pattern.compile(" {4}String text = \"(.*)\";");
    private static final Pattern SHOWN = Pattern.compile(" {4}pot\\.(\\w+)\\(([^)]*)\\); *// (-?\\d+).*");
    private static final Pattern FACE = Pattern.compile("public int (\\w+)\\(([^)]*)\\);");
    private static final int LEAST_SHOWN = 6;
    private static int wrong = 0;

    private static void check(boolean isSo, String what) {
        if (!isSo) {
            wrong++;
            System.out.println("README.md: " + what);
        }
    }

    public static void main(String[] args) throws IOException {
        String readme = Files.readString(Path.of("README.md"));
        int shown = answersShown(readme);
        callsNamed(readme, Files.readString(Path.of("../shared/DOC.md")));
        testsNamed(readme);
        System.out.println("README.md: " + shown + " answers shown, " + wrong + " wrong");
        if (wrong != 0) {
            System.exit(1);
        }
    }

    /** The calls of the example, on one object in their order, answer what stands behind them. */
    private static int answersShown(String readme) {
        List<String> rows = new ArrayList<>();
        for (String line : readme.lines().toList()) {
            Matcher text = TEXT.matcher(line);
            Matcher call = SHOWN.matcher(line);
            if (text.matches()) {
                rows.add("text " + text.group(1));
            } else if (call.matches()) {
                rows.add((call.group(1) + " " + call.group(2).replace(",", "")).trim() + " = " + call.group(3));
            }
        }
        check(rows.size() > LEAST_SHOWN, "the example is missing");
        new Script().run(rows.toArray(new String[0])).wrongs().forEach(each -> check(false, each));
        return rows.size() - 1;
    }

    private static void callsNamed(String readme, String document) {
        Matcher call = FACE.matcher(document);
        int calls = 0;
        while (call.find()) {
            calls++;
            String row = "| `" + call.group(1) + "(" + call.group(2).replace("int ", "") + ")` |";
            check(readme.contains("\n" + row), "no row " + row);
        }
        check(calls > 0, "no call was found in the document");
    }

    private static void testsNamed(String readme) throws IOException {
        try (Stream<Path> files = Files.list(Path.of("src/test/java"))) {
            files.map(file -> file.getFileName().toString().replace(".java", "")).filter(name -> name.endsWith("Test"))
                .forEach(name -> check(readme.contains("\n- `" + name + "`: "), name + " is not named"));
        }
    }
}
