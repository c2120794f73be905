import java.io.IOException;
import java.nio.file.Files;
import java.nio.file.Path;
import java.util.ArrayList;
import java.util.List;
import java.util.regex.Matcher;
import java.util.regex.Pattern;

/** What README.md says is so: its example's answers, the findings' numbers, all calls of the face, and its files. */
final class ReadmeTest {
    private static final Path DOCUMENT = Path.of("../shared/DOC.md");
    private static final String NEW = "TunnelPeace x = new TunnelPeace();";
    private static final Pattern CALL = Pattern.compile("x\\.(\\w+)\\(([^)]*)\\); +// (-?\\d+): \\S.*");

    public static void main(String[] args) throws IOException {
        String readme = Files.readString(Path.of("README.md"));
        example(readme);
        findings(readme);
        calls(readme);
        files(readme);
        heads();
        Check.end("ReadmeTest");
    }

    /** Each row of the example is a call with the answer behind it, all on one object. */
    private static void example(String readme) {
        Matcher block = Pattern.compile("(?s)```java\n(.*?)```").matcher(readme);
        Check.that("README.md has an example", block.find());
        TunnelPeace x = new TunnelPeace();
        for (String row : block.group(1).lines().toList()) {
            Matcher call = CALL.matcher(row);
            if (call.matches()) {
                Check.due(row, Calls.call(x, call.group(1), numbers(call.group(2))), Long.parseLong(call.group(3)));
            } else {
                Check.that(row + " is a call with its answer", row.isEmpty() || row.equals(NEW));
            }
        }
    }

    private static int[] numbers(String told) {
        List<Integer> numbers = new ArrayList<>();
        for (String number : told.split(", ")) {
            if (!number.isEmpty()) {
                numbers.add(Integer.decode(number));
            }
        }
        return numbers.stream().mapToInt(Integer::intValue).toArray();
    }

    private static void findings(String readme) {
        String[] names = {"BEYOND", "FULL", "KIND", "NONE", "STATE", "MISSING", "SIZE"};
        for (int i = 0; i < names.length; i++) {
            String row = "\n| " + (Check.BEYOND - i) + " | " + names[i] + " | ";
            Check.that("README.md has the row" + row, readme.contains(row));
        }
        TunnelPeace x = new TunnelPeace();
        x.seed((int) Check.BEYOND);
        Check.due("count(6)", x.count(6), Check.BEYOND);
        Check.due("seed(0)", x.seed(0), Check.BEYOND);
        Check.due("text()", x.text(), -1);
        Check.due("status(-1): none of these was a finding", x.status(-1), 0);
    }

    /** Every call of the document's face is there, with its parameters' names, and once. */
    private static void calls(String readme) throws IOException {
        Matcher line = Pattern.compile("(?m)^    public (?:int|long) (\\w+)\\((.*)\\);$").matcher(Files.readString(DOCUMENT));
        int calls = 0;
        while (line.find()) {
            String told = "`" + line.group(1) + "(" + line.group(2).replaceAll("\\bint ", "") + ")`";
            int at = readme.indexOf(told);
            Check.that("README.md tells of " + told + " once", at >= 0 && readme.indexOf(told, at + 1) < 0);
            calls++;
        }
        Check.due("calls of the document", calls, 40);
    }

    private static void files(String readme) {
        Matcher file = Pattern.compile("(?:\\.\\./shared|src|\\.ci)/[\\w./]*\\w|\\b[A-Z]+\\.md").matcher(readme);
        int files = 0;
        while (file.find()) {
            Check.that(file.group() + " is there", Files.exists(Path.of(file.group())));
            files++;
        }
        Check.that("README.md names files", files > 5);
        Check.that(".ci/run can be run", Files.isExecutable(Path.of(".ci/run")));
    }

    private static void heads() throws IOException {
        try (var files = Files.list(Path.of("src/test/java"))) {
            for (Path file : files.filter(f -> f.toString().endsWith("Test.java")).sorted().toList()) {
                Matcher head = Pattern.compile("\\*/\nfinal class \\w+Test \\{").matcher(Files.readString(file));
                Check.that(file + " says what it is for", head.find());
            }
        }
    }
}
