import java.io.IOException;
import java.nio.file.Files;
import java.nio.file.Path;
import java.util.ArrayList;
import java.util.List;
import java.util.regex.Matcher;
import java.util.regex.Pattern;

/** The text of the class without comments and written texts, and its methods. */
final class Source {
    /** A method or, where the name is that of its class, a constructor. */
    record Method(String name, int parameters, String body) {
    }

    private static final Pattern HEAD = Pattern.compile("(?m)^( {4}| {8})(?:(?:public|private|static) )*(?:[\\w\\[\\]]+ )?(\\w+)\\(([^)]*)\\)"
        + "(?: throws [\\w, ]+)? \\{$");

    private Source() {
    }

    static String bare(String path) throws IOException {
        String text = Files.readString(Path.of(path));
        return text.replaceAll("(?s)/\\*.*?\\*/", "").replaceAll("\"[^\"\n]*\"", "\"\"").replaceAll("//.*", "");
    }

    /** A method ends at the first brace with its own indent. */
    static List<Method> methods(String bare) {
        List<Method> all = new ArrayList<>();
        Matcher head = HEAD.matcher(bare);
        while (head.find()) {
            String end = "\n" + head.group(1) + "}\n";
            String body = bare.substring(head.end(), bare.indexOf(end, head.end() - 1));
            int parameters = head.group(3).isBlank() ? 0 : head.group(3).split(",").length;
            all.add(new Method(head.group(2), parameters, body));
        }
        return all;
    }
}
