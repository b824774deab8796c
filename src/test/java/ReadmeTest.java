import java.io.IOException;
import java.nio.file.Files;
import java.nio.file.Path;
import java.util.ArrayList;
import java.util.Collections;
import java.util.List;

/** The examples of README.md stand here word for word, and answer what their comments say. */
final class ReadmeTest {
    private static final Check CHECK = new Check("ReadmeTest");

    public static void main(String[] args) throws IOException {
        examples();
        List<String> shown = shownCode(Files.readAllLines(Path.of("README.md")));
        CHECK.no("there are no examples", shown.isEmpty());
        CHECK.yes("the examples are those of this test: " + shown, standHere(shown));
        CHECK.end();
    }

    private static void examples() {
        WireSchema x = new WireSchema();
        for (char c : "struct".toCharArray()) x.write(c);
        x.line();
        CHECK.same("structs", x.count(1), 1);
        for (char c : "field 1 int required".toCharArray()) x.write(c);
        x.line();
        for (char c : "field 2 list text".toCharArray()) x.write(c);
        x.line();
        CHECK.same("fields", x.count(2), 2);

        x.begin(0);
        x.number(1, -3);
        for (char c : "hi".toCharArray()) x.write(c);
        x.text(2);
        int n = x.encode(1);
        int first = x.at(0);
        CHECK.same("bytes", n, 8);
        CHECK.same("the first", first, 21);

        x.clear();
        for (int b : new int[] {21, 5, 0}) x.feed(b);
        int outcome = x.decode(0, 1);
        long three = x.value(1, 0);
        CHECK.same("outcome", outcome, 0);
        CHECK.same("three", three, -3);

        for (char c : "field 3 list struct 0".toCharArray()) x.write(c);
        x.line();
        CHECK.same("records behind a line", x.count(3), 0);
        x.begin(0);
        x.number(1, 7);
        x.open(3);
        x.number(1, 8);
        int deep = x.count(3);
        x.back();
        int many = x.size(3);
        x.go(3, 0);
        long eight = x.value(1, 0);
        CHECK.same("deep", deep, 2);
        CHECK.same("many", many, 1);
        CHECK.same("eight", eight, 8);
    }

    /** The lines of the Java blocks without their comments. */
    private static List<String> shownCode(List<String> readme) {
        List<String> code = new ArrayList<>();
        boolean isJava = false;
        for (String line : readme) {
            if (line.startsWith("```")) {
                isJava = line.equals("```java");
            } else if (isJava) {
                String told = line.replaceFirst("//.*", "").trim();
                code.addAll(told.isEmpty() ? List.of() : List.of(told));
            }
        }
        return code;
    }

    private static boolean standHere(List<String> shown) throws IOException {
        List<String> here = new ArrayList<>();
        for (String line : Files.readAllLines(Path.of("src/test/java/ReadmeTest.java"))) {
            here.add(line.trim());
        }
        here.retainAll(shown);
        return Collections.indexOfSubList(here, shown) == 0 && here.size() == shown.size();
    }
}
