import java.io.IOException;
import java.nio.file.Files;
import java.nio.file.Path;
import java.util.List;
import java.util.regex.Pattern;

/** What of LANGUAGE.md can be seen in the text of the class; the class's path is the argument. */
public final class LanguageTest {
    private static final String[] OUTSIDE = {"->", "::", "\\bcatch\\b", "\\bfinally\\b", "\\bsynchronized\\b",
        "\\bassert\\b", "\\bprotected\\b", "^package\\b", "Exact\\(", "\\bSystem\\.(?!arraycopy)",
        "\\bMath\\.(?!min|max)", "^import (?!java\\.util\\.Arrays;)", "\\bstatic \\{", "\" \\+|\\+ \"",
        "\\bstatic (?!final\\b|class\\b)(\\w|\\[|\\])+ \\w+( =|;)", "[^\\x00-\\x7f]"};

    private static final int LONGEST_METHOD = 60;

    public static void main(String[] args) throws IOException {
        List<String> lines = Files.readAllLines(Path.of(args[0]));
        for (String outside : OUTSIDE) {
            Pattern pattern = Pattern.compile(outside);
            for (int i = 0; i < lines.size(); i++) {
                Check.report("line " + (i + 1) + " has " + outside + ": " + lines.get(i),
                    Boolean.toString(pattern.matcher(lines.get(i)).find()), "false");
            }
        }
        methodLengths(lines);
        objectsMade(lines);
        Check.finish();
    }

    /** A method's first line ends with a brace behind its parameters, its last has the same indent. */
    private static void methodLengths(List<String> lines) {
        Pattern first = Pattern.compile("^ {4,8}[\\w\\[\\] ]+\\(.*\\{$");
        for (int i = 0; i < lines.size(); i++) {
            if (first.matcher(lines.get(i)).find()) {
                String indent = lines.get(i).replaceFirst("\\S.*", "");
                int end = i;
                while (!lines.get(end).equals(indent + "}")) {
                    end++;
                }
                Check.report("the length of " + lines.get(i).trim(),
                    Boolean.toString(end - i < LONGEST_METHOD), "true");
            }
        }
    }

    /** All rows are made with the object: no call makes anything but an exception that it throws. */
    private static void objectsMade(List<String> lines) {
        Pattern kept = Pattern.compile("throw new \\w+\\(|final [\\w\\[\\]]+ \\w+ = new |^ {16}(works|rows)\\[\\w\\] = new ");
        for (String line : lines) {
            if (line.contains("new ") && !line.trim().startsWith("*") && !line.trim().startsWith("/*")) {
                Check.report("made by a call: " + line, Boolean.toString(kept.matcher(line).find()), "true");
            }
        }
    }
}
