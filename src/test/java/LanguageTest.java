import java.io.IOException;
import java.nio.file.Files;
import java.nio.file.Path;
import java.util.HashSet;
import java.util.List;
import java.util.Set;
import java.util.regex.Matcher;
import java.util.regex.Pattern;

/** What of ../shared/LANGUAGE.md can be seen in the source's own words. */
public final class LanguageTest {
    private LanguageTest() {
    }

    public static void main(String[] args) throws IOException {
        List<String> lines = Files.readAllLines(Path.of("src/main/java/SchoolHouse.java"));
        Check.part("LANGUAGE.md");
        Set<String> face = new HashSet<>();
        int classes = 0;
        for (String line : lines) {
            Matcher m = Pattern.compile("^    public (?:int|long) (\\w+)\\(").matcher(line);
            if (m.find()) face.add(m.group(1));
            if (line.matches("^ *(public |private |static )*(final |abstract )*(class|interface|enum|record) .*")) classes++;
        }
        Check.due("methods of the face", face.size(), 30);
        Check.due("at most some twelve classes", classes <= 12 ? 1 : 0, 1);
        int method = 0;
        for (int i = 0; i < lines.size(); i++) {
            String line = lines.get(i).replaceAll("\"[^\"]*\"", "\"\"").replaceAll("//.*", "").replaceAll("^ */?\\*.*", "");
            String at = "line " + (i + 1) + ": " + line.trim();
            forbid(at, line, "->|::|\\btry\\b|\\bcatch\\b|\\bthrow\\b|\\bfinally\\b|\\bassert\\b|\\bsynchronized\\b|\\bdouble\\b|\\bfloat\\b");
            forbid(at, line, "System\\.(?!arraycopy)|Exact\\(|Double\\.|Float\\.|Math\\.(?!max|min|abs)|static \\{");
            if (line.startsWith("import ")) Check.due(at, line.equals("import java.util.Arrays;") ? 1 : 0, 1);
            Matcher m = Pattern.compile("^ +private [\\w\\[\\] ]+ (\\w+)\\(").matcher(line);
            if (m.find()) Check.due(at, face.contains(m.group(1)) ? 1 : 0, 0);
            if (line.matches("^ +static [\\w\\[\\]]+ \\w+ *=.*")) Check.due(at, 0, 1);
            if (line.matches("^ +[\\w\\[\\] ]+\\([\\w\\[\\], ]*\\) \\{$")) method = i;
            if (line.matches("^(    |        )\\}$")) Check.due("lines of the method that ends at " + at, i - method <= 60 || line.length() == 5 ? 1 : 0, 1);
        }
        Check.finish();
    }

    private static void forbid(String at, String line, String what) {
        Check.due(at, Pattern.compile(what).matcher(line).find() ? 1 : 0, 0);
    }
}
