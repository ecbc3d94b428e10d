import java.lang.reflect.Constructor;
import java.lang.reflect.Field;
import java.lang.reflect.Method;
import java.lang.reflect.Modifier;
import java.nio.file.Files;
import java.nio.file.Path;
import java.util.Set;
import java.util.TreeSet;
import java.util.regex.Matcher;
import java.util.regex.Pattern;

/** The document's face and no more, and those rules of LANGUAGE.md that can be seen from outside. */
public final class FaceTest {
    private static final String[] FACE = {
        "int feed(int,int,int,int,int)", "int end(int)", "int town()", "int fault(int)", "int notes(int)",
        "int step(int,int)", "int off(int,int,int)", "int in(int,int,int)", "int doors(int,boolean)",
        "int asked(int,int,boolean)", "int dealt(int)", "int master(int,int)", "int round(int,int)", "int good(int,int)",
        "int deaf(int,int,int)", "int least(int,boolean)", "int sing(int,int)", "int song(int,int)", "int silence()",
        "boolean shut(int)", "boolean night(boolean)", "int lock(int,int)", "int heard(int,int)",
        "int watch(int,boolean,boolean)", "boolean untell(int)", "int later(int)", "int left(int)", "int next(int,int)",
        "int image(int)", "int back(int)", "int about(int)"};

    private static final String[] FORBIDDEN = {"throw", "throws", "try", "catch", "finally", "synchronized", "assert",
        "Object", "System\\.out", "->", "::", "\\w+Exact", "protected", "volatile", "Map", "Set", "Random", "hashCode",
        "toString", "import java\\.util\\.\\*", "package", "var"};

    private final Check c = new Check();

    public static void main(String[] args) throws Exception {
        FaceTest t = new FaceTest();
        t.face();
        t.classesInside();
        t.source();
        t.c.finish();
    }

    private void face() {
        Class<?> x = TuneLocks.class;
        int open = Modifier.PUBLIC | Modifier.FINAL;
        c.due("public and final", x.getModifiers() & open, open);
        Set<String> wanted = new TreeSet<>(Set.of(FACE));
        Set<String> names = new TreeSet<>();
        for (String f : FACE) {
            names.add(f.replaceAll(".* |\\(.*", ""));
        }
        for (Method m : x.getDeclaredMethods()) {
            StringBuilder s = new StringBuilder(m.getReturnType().getName()).append(' ').append(m.getName()).append('(');
            for (Class<?> p : m.getParameterTypes()) {
                s.append(s.charAt(s.length() - 1) == '(' ? "" : ",").append(p.getName());
            }
            s.append(')');
            if (Modifier.isPublic(m.getModifiers())) {
                c.due(s + " is of the face", wanted.remove(s.toString()), true);
            } else {
                c.due(s + " is private", Modifier.isPrivate(m.getModifiers()), true);
                c.due(s + " bears a name of its own", names.contains(m.getName()), false);
            }
        }
        c.due("missing: " + wanted, wanted.size(), 0);
        for (Field f : x.getDeclaredFields()) {
            boolean constant = f.getName().equals("NONE") || f.getName().equals("GAP");
            c.due(f + " is public", Modifier.isPublic(f.getModifiers()), constant);
            c.due(f + " is private", Modifier.isPrivate(f.getModifiers()), !constant);
            c.due(f + " is no static state", Modifier.isStatic(f.getModifiers()) && !Modifier.isFinal(f.getModifiers()), false);
        }
        Constructor<?>[] made = x.getDeclaredConstructors();
        c.due("one constructor", made.length, 1);
        c.due("a public one", Modifier.isPublic(made[0].getModifiers()), true);
        c.due("NONE", TuneLocks.NONE, -1);
        c.due("GAP", TuneLocks.GAP, -1000000);
    }

    private void classesInside() {
        Class<?>[] inside = TuneLocks.class.getDeclaredClasses();
        c.due("twelve classes at most", inside.length < 12, true);
        for (Class<?> k : inside) {
            c.due(k + " is static", Modifier.isStatic(k.getModifiers()), true);
            c.due(k + " is private", Modifier.isPrivate(k.getModifiers()), true);
            int fields = 0;
            for (Field f : k.getDeclaredFields()) {
                boolean still = Modifier.isStatic(f.getModifiers());
                fields += still ? 0 : 1;
                c.due(f + " is no static state", still && !Modifier.isFinal(f.getModifiers()), false);
            }
            c.due(k + " has twenty fields at most", fields <= 20, true);
            for (Method m : k.getDeclaredMethods()) {
                c.due(m + " takes seven at most", m.getParameterCount() <= 7, true);
                for (String f : FACE) {
                    c.due(m + " bears a name of its own", f.contains(" " + m.getName() + "("), false);
                }
            }
        }
    }

    private void source() throws Exception {
        String text = Files.readString(Path.of("src/main/java/TuneLocks.java"));
        c.due("plain signs", text.chars().allMatch(s -> s == 10 || s >= 32 && s < 127), true);
        String code = text.replaceAll("(?s)/\\*.*?\\*/", "").replaceAll("//[^\n]*", "").replaceAll("\"[^\"]*\"", "\"\"");
        for (String f : FORBIDDEN) {
            String word = Character.isLetter(f.charAt(0)) || f.charAt(0) == '\\' ? "\\b" + f + "\\b" : f;
            Matcher m = Pattern.compile(word).matcher(code);
            c.due("no " + f, m.find(), false);
        }
        Matcher m = Pattern.compile("import ([^;]*);").matcher(code);
        while (m.find()) {
            c.due("import " + m.group(1), m.group(1).equals("java.util.Arrays"), true);
        }
        int lines = 0;
        for (String line : code.split("\n")) {
            if (line.matches(" {4}( {4})?[a-zA-Z].*\\) \\{")) {
                lines = 0;
            }
            lines++;
            if (line.matches(" {4}( {4})?\\}")) {
                c.due("a method of " + lines + " lines", lines <= 60, true);
                lines = 0;
            }
        }
    }
}
