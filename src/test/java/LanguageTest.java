import java.io.IOException;
import java.lang.reflect.Field;
import java.lang.reflect.Modifier;
import java.nio.file.Files;
import java.nio.file.Path;
import java.util.List;
import java.util.regex.Matcher;
import java.util.regex.Pattern;

/** What of LANGUAGE.md can be seen in the text of the class; the class's path is the argument. */
public final class LanguageTest {
    private static final String[] OUTSIDE = {"->", "::", "\\bcatch\\b", "\\bfinally\\b", "\\bsynchronized\\b",
        "\\bassert\\b", "\\bprotected\\b", "^package\\b", "Exact\\(", "\\bSystem\\.(?!arraycopy)",
        "\\bMath\\.(?!min|max)", "^import (?!java\\.util\\.Arrays;)", "\\bstatic \\{", "\" \\+|\\+ \"",
        "\\bstatic (?!final\\b|class\\b)(\\w|\\[|\\])+ \\w+( =|;)", "[^\\x00-\\x7f]"};

    private static final Pattern THROWN = Pattern.compile("throw (?!new (IllegalState|IllegalArgument|IndexOutOfBounds)Exception\\()");
    private static final Pattern LIBRARY = Pattern.compile("\\b(?!Math\\.(min|max)\\b|Arrays\\.fill\\b|System\\.arraycopy\\b"
        + "|Tape\\.|java\\.util\\.Arrays;)[A-Z]\\w*\\.\\w+");
    private static final Pattern CLASS = Pattern.compile("\\b(class|record|enum|interface) \\w");

    private static final int LONGEST_METHOD = 60;
    private static final int MOST_PARAMETERS = 7;
    private static final int MOST_CLASSES = 12;
    private static final int MOST_FIELDS = 20;

    public static void main(String[] args) throws IOException {
        List<String> lines = Files.readAllLines(Path.of(args[0]));
        for (String outside : OUTSIDE) {
            Pattern pattern = Pattern.compile(outside);
            for (int i = 0; i < lines.size(); i++) {
                Check.report("line " + (i + 1) + " has " + outside + ": " + lines.get(i),
                    Boolean.toString(pattern.matcher(lines.get(i)).find()), "false");
            }
        }
        methodLengths(lines);
        objectsMade(lines);
        String bare = Source.bare(args[0]);
        methodsAndThrows(Source.methods(bare));
        Check.report("throws another class", Boolean.toString(THROWN.matcher(bare).find()), "false");
        Matcher library = LIBRARY.matcher(bare);
        Check.report("another name of the library", library.find() ? library.group() : "none", "none");
        long classes = CLASS.matcher(bare).results().count();
        Check.report(classes + " classes", Boolean.toString(classes > 0 && classes <= MOST_CLASSES), "true");
        fields(BridgeNight.class);
        for (Class<?> c : BridgeNight.class.getDeclaredClasses()) {
            fields(c);
        }
        Check.finish();
    }

    /** Rule 11: parameters; rule 6: no throw in a constructor, whose name begins with a capital. */
    private static void methodsAndThrows(List<Source.Method> methods) {
        for (Source.Method m : methods) {
            Check.report("parameters of " + m.name(), Boolean.toString(m.parameters() <= MOST_PARAMETERS), "true");
            boolean isConstructor = Character.isUpperCase(m.name().charAt(0));
            Check.report("a constructor that throws: " + m.name(),
                Boolean.toString(isConstructor && m.body().contains("throw ")), "false");
        }
    }

    private static void fields(Class<?> c) {
        int fields = 0;
        for (Field f : c.getDeclaredFields()) {
            fields += Modifier.isStatic(f.getModifiers()) ? 0 : 1;
        }
        Check.report("the fields of " + c.getSimpleName(), Boolean.toString(fields <= MOST_FIELDS), "true");
    }

    /** A method's first line ends with a brace behind its parameters, its last has the same indent. */
    private static void methodLengths(List<String> lines) {
        Pattern first = Pattern.compile("^ {4,8}[\\w\\[\\] ]+\\(.*\\{$");
        for (int i = 0; i < lines.size(); i++) {
            if (first.matcher(lines.get(i)).find()) {
                String indent = lines.get(i).replaceFirst("\\S.*", "");
                int end = i;
                while (!lines.get(end).equals(indent + "}")) {
                    end++;
                }
                Check.report("the length of " + lines.get(i).trim(),
                    Boolean.toString(end - i < LONGEST_METHOD), "true");
            }
        }
    }

    /** All rows are made with the object: no call makes anything but an exception that it throws. */
    private static void objectsMade(List<String> lines) {
        Pattern kept = Pattern.compile("throw new \\w+\\(|final [\\w\\[\\]]+ \\w+ = new |^ {16}(works|rows)\\[\\w\\] = new ");
        for (String line : lines) {
            if (line.contains("new ") && !line.trim().startsWith("*") && !line.trim().startsWith("/*")) {
                Check.report("made by a call: " + line, Boolean.toString(kept.matcher(line).find()), "true");
            }
        }
    }
}
