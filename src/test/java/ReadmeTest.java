import java.io.IOException;
import java.lang.reflect.Method;
import java.lang.reflect.Modifier;
import java.net.URL;
import java.net.URLClassLoader;
import java.nio.file.Files;
import java.nio.file.Path;
import java.util.Comparator;
import java.util.List;
import java.util.Set;
import java.util.TreeSet;
import java.util.regex.Matcher;
import java.util.regex.Pattern;
import java.util.stream.Stream;

/** What README.md shows is compiled and run as it stands there; each answer that it names behind a call must be so. */
public final class ReadmeTest {
    private static final Pattern BLOCK = Pattern.compile("(?s)```java\n(.*?)```");
    private static final Pattern CALL = Pattern.compile("((\\w+)\\.(\\w+)\\(.*\\)); *// (.*)");
    private static final Pattern ANSWER = Pattern.compile("(-?\\d+|true|false|NONE|GAP)(:.*)?");
    private static final String NAME = "ReadmeUse";

    private final Check c = new Check();
    private final String readme;
    private final StringBuilder members = new StringBuilder();
    private final StringBuilder calls = new StringBuilder();
    private final Set<String> answered = new TreeSet<>();

    private ReadmeTest(String readme) {
        this.readme = readme;
    }

    public static void main(String[] args) throws Exception {
        ReadmeTest t = new ReadmeTest(Files.readString(Path.of("README.md")));
        t.takeBlocks();
        t.answersHold();
        t.eachCallIsShown();
        t.testsAreNamed();
        t.whatItMustSay();
        t.c.finish();
    }

    private void takeBlocks() {
        Matcher m = BLOCK.matcher(readme);
        while (m.find()) {
            if (m.group(1).startsWith("static ")) {
                members.append(m.group(1));
            } else {
                m.group(1).lines().forEach(this::takeLine);
            }
        }
        c.due("a block of members", members.length() > 0, true);
    }

    private void takeLine(String line) {
        Matcher m = CALL.matcher(line);
        if (!m.matches()) {
            calls.append(line).append('\n');
            return;
        }
        Matcher answer = ANSWER.matcher(m.group(4));
        c.due("an answer is named behind " + line, answer.matches(), true);
        if (answer.matches()) {
            answered.add(m.group(3));
            calls.append("due(\"").append(m.group(1)).append("\", ").append(m.group(1)).append(", ")
                    .append(answer.group(1)).append(");\n");
        }
    }

    private String source() {
        return "import java.nio.ByteBuffer;import java.nio.charset.StandardCharsets;import java.util.Arrays;"
                + "import java.util.ArrayList;import java.util.List;\n"
                + "public final class " + NAME + " {\n"
                + "static final int NONE = TuneLocks.NONE;static final int GAP = TuneLocks.GAP;\n"
                + "static final List<String> wrong = new ArrayList<>();\n"
                + "static void due(String call, Object got, Object want) {\n"
                + "if (!got.equals(want)) { wrong.add(call + \" answered \" + got + \", README.md says \" + want); } }\n"
                + members + "public static List<String> run() {\n" + calls + "return wrong; } }\n";
    }

    private void answersHold() throws Exception {
        Path dir = Files.createTempDirectory("readme");
        try {
            Path file = dir.resolve(NAME + ".java");
            Files.writeString(file, source());
            int code = new ProcessBuilder("javac", "-cp", System.getProperty("java.class.path"), "-d", dir.toString(),
                    file.toString()).inheritIO().start().waitFor();
            c.due("what README.md shows compiles", code, 0);
            if (code == 0) {
                wrongOnes(dir).forEach(w -> c.due(w, false, true));
            }
        } finally {
            remove(dir);
        }
    }

    private static List<String> wrongOnes(Path dir) throws Exception {
        try (URLClassLoader loader = new URLClassLoader(new URL[] {dir.toUri().toURL()})) {
            Object wrong = loader.loadClass(NAME).getMethod("run").invoke(null);
            return ((List<?>) wrong).stream().map(String::valueOf).toList();
        }
    }

    private static void remove(Path dir) throws IOException {
        try (Stream<Path> all = Files.walk(dir)) {
            for (Path p : all.sorted(Comparator.reverseOrder()).toList()) {
                Files.delete(p);
            }
        }
    }

    private void eachCallIsShown() {
        for (Method m : TuneLocks.class.getDeclaredMethods()) {
            if (Modifier.isPublic(m.getModifiers())) {
                c.due(m.getName() + " is shown with an answer", answered.contains(m.getName()), true);
            }
        }
    }

    private void testsAreNamed() throws IOException {
        try (Stream<Path> tests = Files.list(Path.of("src/test/java"))) {
            for (Path p : tests.toList()) {
                String name = p.getFileName().toString().replace(".java", "");
                if (name.endsWith("Test")) {
                    c.due(name + " is named", readme.contains("`" + name + "`"), true);
                }
            }
        }
    }

    private void whatItMustSay() {
        for (String said : new String[] {".ci/run", "512 calls", "`NONE` (" + TuneLocks.NONE + ")", "`GAP` (" + TuneLocks.GAP + ")",
            "FAULT", "1,700 bytes", "../shared/tests"}) {
            c.due("README.md says " + said, readme.contains(said), true);
        }
    }
}
