import java.io.IOException;
import java.nio.file.Files;
import java.nio.file.Path;
import java.util.ArrayList;
import java.util.List;
import java.util.Map;
import java.util.Set;
import java.util.TreeMap;
import java.util.TreeSet;
import java.util.regex.Matcher;
import java.util.regex.Pattern;

/** The rules of LANGUAGE.md that can be seen in the text of the class; it is run in the project's folder. */
public final class LanguageTest {
    private static final Check c = new Check();

    public static void main(String[] args) throws IOException {
        String source = Files.readString(Path.of("src/main/java/OffThenOn.java"));
        String code = source.replaceAll("(?s)/\\*.*?\\*/", "").replaceAll("//[^\n]*", "").replaceAll("\"[^\"]*\"", "\"\"");
        for (String no : List.of("->", "::", "\\bfinally\\b", "\\bsynchronized\\b", "\\bassert\\b", "\\bcatch\\b", "\\btry\\b", "Exact\\b",
                "\\bpackage\\b", "\\bdouble\\b", "\\bfloat\\b", "\\bObject\\b", "\\bprotected\\b", "\\bvar\\b", "static \\{",
                "\\.hashCode\\b", "\\.toString\\b", "\\bInteger\\.M", "\\bString\\[", "\\bnew [A-Za-z]+\\[[^\\]]*\\]\\[")) {
            c.is("none of " + no, found(code, no), List.of());
        }
        c.is("imports", found(code, "import [^;]*"), List.of("import java.util.NoSuchElementException"));
        c.is("throws", found(code, "throw new (?!NoSuchElementException\\(\\))[^;]*"), List.of());
        c.is("System", found(code, "System\\.(?!arraycopy\\()\\w+"), List.of());
        c.is("Math and Integer", found(code, "\\b(Math|Integer|Long)\\.(?!max\\(|bitCount\\()\\w+"), List.of());
        c.is("static fields are final", found(code, "\\bstatic (?!final)[^({=;]*[=;]"), List.of());
        c.is("few classes", found(code, "\\b(class|record|enum|interface) \\w+").size() <= 12, true);
        c.is("only one class is public", found(code, "\\bpublic [^;{(]*\\b(class|record|enum|interface) \\w+").size(), 1);
        methods(code);
        recursion(code);
        depth(code);
        c.close();
    }

    private static List<String> found(String code, String what) {
        List<String> all = new ArrayList<>();
        Matcher m = Pattern.compile(what).matcher(code);
        while (m.find()) {
            all.add(m.group());
        }
        return all;
    }

    private static void methods(String code) {
        List<String> open = new ArrayList<>();
        String[] lines = code.split("\n");
        Pattern head = Pattern.compile("^(    |        )(?:\\w+ )*[\\w\\[\\]]+ ?(\\w+)?\\(([^)]*)\\)[^;{]*\\{$");
        for (int i = 0; i < lines.length; i++) {
            Matcher m = head.matcher(lines[i]);
            if (!m.find() || lines[i].contains(" class ") || lines[i].matches(" *(if|for|while|switch|}) .*")) {
                continue;
            }
            c.is("parameters of line " + i, m.group(3).split(",").length <= 7, true);
            int end = i;
            while (end < lines.length && !lines[end].equals(m.group(1) + "}")) {
                end++;
            }
            c.is("length of the method at line " + i + " " + lines[i].trim(), end - i <= 60, true);
            open.add(lines[i]);
        }
        c.is("methods were found", open.size() > 100, true);
    }

    /** Rule 8: a method that calls itself is static; others call one another. */
    private static void recursion(String code) {
        Matcher head = Pattern.compile("(?m)^(    |        )((?:(?:public|private|static|final) )*)[\\w\\[\\]]+ (\\w+)\\([^)]*\\)[^;{]*\\{$")
                .matcher(code);
        int looked = 0;
        while (head.find()) {
            String body = code.substring(head.end(), code.indexOf("\n" + head.group(1) + "}", head.end()));
            if (!head.group(2).contains("static")) {
                c.is(head.group(3) + " does not call itself", found(body, "(?<![.\\w])" + head.group(3) + "\\("), List.of());
                looked++;
            }
        }
        c.is("methods of objects were found", looked > 100, true);
    }

    /** Rule 11: calls that are no recursion go at most eight deep; methods are told apart by their names alone. */
    private static void depth(String code) {
        Map<String, Set<String>> calls = new TreeMap<>();
        Matcher head = Pattern.compile("(?m)^(    |        )(?:(?:public|private|static|final) )*[\\w\\[\\]]+ (\\w+)\\([^)]*\\)[^;{]*\\{$")
                .matcher(code);
        while (head.find()) {
            int end = code.indexOf("\n" + head.group(1) + "}", head.end());
            Set<String> called = calls.computeIfAbsent(head.group(2), k -> new TreeSet<>());
            for (String call : found(code.substring(head.end(), end), "\\w+\\(")) {
                called.add(call.substring(0, call.length() - 1));
            }
        }
        c.is("methods with calls were found", calls.size() > 100, true);
        for (Set<String> called : calls.values()) {
            called.retainAll(calls.keySet());
        }
        Map<String, Integer> deep = new TreeMap<>();
        for (String name : calls.keySet()) {
            c.is("calls of " + name + " are eight deep at most", deepOf(name, calls, deep) <= 8, true);
        }
    }

    /** Methods that call one another count as one. */
    private static int deepOf(String name, Map<String, Set<String>> calls, Map<String, Integer> deep) {
        if (deep.containsKey(name)) {
            return deep.get(name);
        }
        Set<String> ring = new TreeSet<>(Set.of(name));
        for (String other : calls.keySet()) {
            if (reaches(name, other, calls, new TreeSet<>()) && reaches(other, name, calls, new TreeSet<>())) {
                ring.add(other);
            }
        }
        int most = 0;
        for (String member : ring) {
            for (String called : calls.get(member)) {
                if (!ring.contains(called)) {
                    most = Math.max(most, deepOf(called, calls, deep));
                }
            }
        }
        deep.put(name, most + 1);
        return most + 1;
    }

    private static boolean reaches(String from, String to, Map<String, Set<String>> calls, Set<String> seen) {
        for (String called : calls.get(from)) {
            if (called.equals(to) || seen.add(called) && reaches(called, to, calls, seen)) {
                return true;
            }
        }
        return false;
    }
}
