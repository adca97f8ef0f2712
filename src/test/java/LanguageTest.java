import java.io.IOException;
import java.nio.file.Files;
import java.nio.file.Path;
import java.util.ArrayList;
import java.util.List;
import java.util.regex.Matcher;
import java.util.regex.Pattern;

/** The rules of LANGUAGE.md that can be seen in the text of the class; it is run in the project's folder. */
public final class LanguageTest {
    private static final Check c = new Check();

    public static void main(String[] args) throws IOException {
        String source = Files.readString(Path.of("src/main/java/OffThenOn.java"));
        String code = source.replaceAll("(?s)/\\*.*?\\*/", "").replaceAll("//[^\n]*", "").replaceAll("\"[^\"]*\"", "\"\"");
        for (String no : List.of("->", "::", "\\bfinally\\b", "\\bsynchronized\\b", "\\bassert\\b", "\\bcatch\\b", "\\btry\\b", "Exact\\b",
                "\\bpackage\\b", "\\bdouble\\b", "\\bfloat\\b", "\\bObject\\b", "\\bprotected\\b", "\\bvar\\b", "static \\{",
                "\\.hashCode\\b", "\\.toString\\b", "\\bInteger\\.M", "\\bString\\[", "\\bnew [A-Za-z]+\\[[^\\]]*\\]\\[")) {
            c.is("none of " + no, found(code, no), List.of());
        }
        c.is("imports", found(code, "import [^;]*"), List.of("import java.util.NoSuchElementException"));
        c.is("throws", found(code, "throw new (?!NoSuchElementException\\(\\))[^;]*"), List.of());
        c.is("System", found(code, "System\\.(?!arraycopy\\()\\w+"), List.of());
        c.is("Math and Integer", found(code, "\\b(Math|Integer|Long)\\.(?!max\\(|bitCount\\()\\w+"), List.of());
        c.is("static fields are final", found(code, "\\bstatic (?!final)[^({=;]*[=;]"), List.of());
        c.is("few classes", found(code, "\\b(class|record|enum|interface) \\w+").size() <= 12, true);
        c.is("only one class is public", found(code, "\\bpublic [^;{(]*\\b(class|record|enum|interface) \\w+").size(), 1);
        methods(code);
        c.close();
    }

    private static List<String> found(String code, String what) {
        List<String> all = new ArrayList<>();
        Matcher m = Pattern.compile(what).matcher(code);
        while (m.find()) {
            all.add(m.group());
        }
        return all;
    }

    private static void methods(String code) {
        List<String> open = new ArrayList<>();
        String[] lines = code.split("\n");
        Pattern head = Pattern.compile("^(    |        )(?:\\w+ )*[\\w\\[\\]]+ ?(\\w+)?\\(([^)]*)\\)[^;{]*\\{$");
        for (int i = 0; i < lines.length; i++) {
            Matcher m = head.matcher(lines[i]);
            if (!m.find() || lines[i].contains(" class ") || lines[i].matches(" *(if|for|while|switch|}) .*")) {
                continue;
            }
            c.is("parameters of line " + i, m.group(3).split(",").length <= 7, true);
            int end = i;
            while (end < lines.length && !lines[end].equals(m.group(1) + "}")) {
                end++;
            }
            c.is("length of the method at line " + i + " " + lines[i].trim(), end - i <= 60, true);
            open.add(lines[i]);
        }
        c.is("methods were found", open.size() > 100, true);
    }
}
