import java.io.File;
import java.io.IOException;
import java.lang.reflect.Method;
import java.net.URL;
import java.net.URLClassLoader;
import java.nio.file.Files;
import java.nio.file.Path;
import java.util.ArrayList;
import java.util.Comparator;
import java.util.List;
import java.util.regex.Matcher;
import java.util.regex.Pattern;
import java.util.stream.Stream;
import javax.tools.ToolProvider;

/**
 * README.md: its Java is compiled as it stands there, and each call answers what stands behind it.
 */
public final class ReadmeTest {
    private static final Pattern BLOCK = Pattern.compile("(?ms)^```java\n(.*?)^```$");
    private static final Pattern SHOWN = Pattern.compile("(office\\.(\\w+)\\(.*\\)); +// (-?\\d+|[A-Z]+): .*");
    private static final Pattern NAMED = Pattern.compile("`(\\w+Test)`");

    private final Due due;
    private final String page;
    private final List<String> called = new ArrayList<>();

    private ReadmeTest(Due due, String page) {
        this.due = due;
        this.page = page;
    }

    public static void main(String[] args) throws Exception {
        Due due = new Due("ReadmeTest");
        ReadmeTest test = new ReadmeTest(due, Files.readString(Path.of("README.md")));
        test.run(test.program());
        test.showsEveryCall();
        test.namesEveryTest();
        test.tellsTheConstants();
        due.end();
    }

    /** The page's blocks as one class: what begins with 'static' is a method of it, all else its run. */
    private String program() {
        StringBuilder methods = new StringBuilder();
        StringBuilder body = new StringBuilder();
        Matcher m = BLOCK.matcher(page);
        while (m.find()) {
            if (m.group(1).startsWith("static ")) {
                methods.append(m.group(1));
            } else {
                m.group(1).lines().forEach(line -> body.append(checked(line)).append('\n'));
            }
        }
        return "import java.util.List;\npublic final class ReadmeShown {\n"
            + "static final int NONE = EvePost.NONE, BAD = EvePost.BAD, STATE = EvePost.STATE, FULL = EvePost.FULL;\n"
            + methods + "public static void run(List<String> calls, List<Integer> got, List<Integer> want) {\n"
            + body + "}\n}\n";
    }

    private String checked(String line) {
        Matcher m = SHOWN.matcher(line);
        if (m.matches()) {
            called.add(m.group(2));
            return "calls.add(\"" + m.group(1) + "\"); got.add(" + m.group(1) + "); want.add(" + m.group(3) + ");";
        }
        due.is("an answer stands behind each call: " + line, line.startsWith("office.") ? 1 : 0, 0);
        return line;
    }

    private void run(String program) throws Exception {
        Path room = Files.createTempDirectory("readme");
        try {
            Path file = Files.writeString(room.resolve("ReadmeShown.java"), program);
            int code = ToolProvider.getSystemJavaCompiler().run(null, null, null,
                "-cp", System.getProperty("java.class.path"), "-d", room.toString(), file.toString());
            due.is("the page's Java compiles", code, 0);
            if (code == 0) {
                compare(room);
            }
        } finally {
            clear(room);
        }
    }

    private void compare(Path room) throws Exception {
        List<String> calls = new ArrayList<>();
        List<Integer> got = new ArrayList<>();
        List<Integer> want = new ArrayList<>();
        try (URLClassLoader loader = new URLClassLoader(new URL[] {room.toUri().toURL()})) {
            loader.loadClass("ReadmeShown").getMethod("run", List.class, List.class, List.class)
                .invoke(null, calls, got, want);
        }
        for (int i = 0; i < calls.size(); i++) {
            due.is(calls.get(i), got.get(i), want.get(i));
        }
        due.is("calls made", calls.size(), called.size());
    }

    private static void clear(Path room) throws IOException {
        try (Stream<Path> all = Files.walk(room)) {
            all.sorted(Comparator.reverseOrder()).map(Path::toFile).forEach(File::delete);
        }
    }

    private void showsEveryCall() {
        for (Method m : EvePost.class.getDeclaredMethods()) {
            if (java.lang.reflect.Modifier.isPublic(m.getModifiers())) {
                due.is(m.getName() + " is shown", called.contains(m.getName()) ? 1 : 0, 1);
            }
        }
    }

    private void namesEveryTest() throws IOException {
        List<String> named = new ArrayList<>();
        Matcher m = NAMED.matcher(page);
        while (m.find()) {
            named.add(m.group(1));
            due.is(m.group(1) + " is there", Files.exists(Path.of("src/test/java", m.group(1) + ".java")) ? 1 : 0, 1);
        }
        try (Stream<Path> files = Files.list(Path.of("src/test/java"))) {
            files.map(f -> f.getFileName().toString()).filter(f -> f.endsWith("Test.java")).sorted().forEach(
                f -> due.is(f + " is named", named.contains(f.replace(".java", "")) ? 1 : 0, 1));
        }
    }

    private void tellsTheConstants() {
        due.is("NONE", page.contains("`EvePost.NONE` (" + EvePost.NONE + ")") ? 1 : 0, 1);
        due.is("BAD", page.contains("`EvePost.BAD` (" + EvePost.BAD + ")") ? 1 : 0, 1);
        due.is("STATE", page.contains("`EvePost.STATE` (" + EvePost.STATE + ")") ? 1 : 0, 1);
        due.is("FULL", page.contains("`EvePost.FULL` (" + EvePost.FULL + ")") ? 1 : 0, 1);
    }
}
