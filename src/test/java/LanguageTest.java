import java.nio.file.Files;
import java.nio.file.Path;
import java.util.List;
import java.util.regex.Matcher;
import java.util.regex.Pattern;

/** Those rules of LANGUAGE.md that a look at the text can tell. */
public final class LanguageTest {
    private static final List<String> BANNED = List.of(
        "\\b(throw|throws|try|catch|synchronized|assert|package|var)\\b", "->", "::", "@", "\\bstatic \\{",
        "\\w+Exact\\b", "\\b(hashCode|toString|Random|Thread|Object)\\b", "\\bString\\.|\"\\s*\\+|\\+\\s*\"",
        "\\b(Byte|Short|Character|Boolean|Double|Float)\\b", "\\b(Integer|Long)\\.[A-Z_]+\\b");

    public static void main(String[] args) throws Exception {
        Due due = new Due("LanguageTest");
        String source = Files.readString(Path.of("src/main/java/EvePost.java"));
        String code = source.replaceAll("(?s)/\\*.*?\\*/", "").replaceAll("//[^\n]*", "");
        for (String banned : BANNED) {
            Matcher m = Pattern.compile(banned).matcher(code);
            due.is("no " + banned, m.find() ? m.group() : "", "");
        }
        due.is("characters up to 127", source.chars().filter(c -> c > 127).count(), 0);
        due.is("imports", many(code, "\\bimport (?!java\\.util\\.(Arrays|ArrayList|List|Iterator);)"), 0);
        due.is("twelve classes at most", many(code, "\\b(class|record|enum|interface) \\w+") > 12 ? 1 : 0, 0);
        due.is("static fields are final", many(code, "\\bstatic (?!final|class|abstract)[\\w\\[\\]]+ \\w+( =|;)"), 0);
        due.is("inner classes are static", many(code, "\n    (private )?(abstract |final )*class "), 0);
        methods(due, code);
        due.end();
    }

    private static int many(String code, String pattern) {
        Matcher m = Pattern.compile(pattern).matcher(code);
        int many = 0;
        while (m.find()) {
            many++;
        }
        return many;
    }

    private static void methods(Due due, String code) {
        Matcher m = Pattern.compile("(?ms)^( +)(?! )(?:[\\w\\[\\]]+ )*(\\w+)\\(([^()]*)\\) \\{\n(.*?)^\\1\\}").matcher(code);
        int seen = 0;
        int from = 0;
        while (m.find(from)) {
            seen++;
            due.is(m.group(2) + " is short", m.group(4).split("\n").length > 60 ? 1 : 0, 0);
            due.is(m.group(2) + " takes seven at most", m.group(3).split(",").length > 7 ? 1 : 0, 0);
            from = m.end();
        }
        due.is("methods were seen", seen > 60 ? 1 : 0, 1);
    }
}
