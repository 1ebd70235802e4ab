import java.io.IOException;
import java.nio.file.Files;
import java.nio.file.Path;
import java.util.List;

/** The rules of LANGUAGE.md that can be seen from the words of the source; run from the project's folder. */
public final class LanguageTest {
    private static final String[] NEVER = {"package ", "throw", "catch", "finally", "assert ", "synchronized", "->",
        "::", "System.", "Exact(", "static {", "Random", "Thread", "double", "float", "protected ", "new ArrayList"};
    private static final int LONGEST_METHOD = 60;

    public static void main(String[] args) throws IOException {
        Check check = new Check();
        check.about("source");
        List<String> lines = Files.readAllLines(Path.of("src/main/java/PursesByLot.java"));
        int begun = 0;
        boolean inConstructor = false;
        for (int n = 0; n < lines.size(); n++) {
            String line = lines.get(n);
            String code = line.replaceAll("//.*|/\\*\\*.*", "");
            for (String word : NEVER) {
                check.due("line " + (n + 1) + " has " + word, code.contains(word) ? 1 : 0, 0);
            }
            if (code.startsWith("import ")) {
                check.due(code, code.equals("import java.util.Arrays;") ? 1 : 0, 1);
            }
            if (code.matches(" {4,8}(public|private) .*\\) \\{")) {
                begun = n;
                inConstructor = code.contains("public PursesByLot()");
            }
            if (code.matches(" {4,8}\\}")) {
                check.due("lines of the method from " + (begun + 1), n - begun > LONGEST_METHOD ? 1 : 0, 0);
                inConstructor = false;
                begun = n;
            }
            boolean ofField = code.matches(" +private final \\w+\\[\\] \\w+ = new .*;");
            check.due("line " + (n + 1) + " makes an object in a call",
                code.contains("new ") && !inConstructor && !ofField ? 1 : 0, 0);
        }
        check.end("LanguageTest");
    }
}
