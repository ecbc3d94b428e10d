import java.io.DataInputStream;
import java.io.IOException;
import java.io.InputStream;
import java.lang.reflect.Field;
import java.lang.reflect.Method;
import java.lang.reflect.Modifier;
import java.nio.file.Files;
import java.nio.file.Path;
import java.util.ArrayList;
import java.util.List;
import java.util.Set;
import java.util.regex.Matcher;
import java.util.regex.Pattern;

/** Those rules of LANGUAGE.md that can be seen from the source or from what javac makes of it. */
public final class LanguageTest {
    private static final String[] FORBIDDEN = {"throw", "throws", "try", "catch", "finally", "synchronized", "assert",
        "Object", "System\\.out", "->", "::", "\\w+Exact", "protected", "volatile", "Map", "Set", "Random", "hashCode",
        "toString", "import java\\.util\\.\\*", "package", "var", "static \\{", "\" \\+", "\\+ \"", "double", "float"};

    /** Of what rule 4 lists, what the class uses. */
    private static final Set<String> LIBRARY = Set.of("java/lang/Integer.bitCount", "java/lang/Math.abs", "java/lang/Math.max",
            "java/lang/Math.min", "java/lang/Object.<init>", "java/lang/String.charAt", "java/lang/String.length",
            "java/lang/System.arraycopy", "java/util/Arrays.fill");

    private static final int MOST_PARAMETERS = 7;
    private static final int MOST_LINES = 60;
    private static final int MOST_CLASSES = 12;
    private static final int MOST_FIELDS = 20;

    private final Check c = new Check();
    private final List<Class<?>> all = new ArrayList<>();

    public static void main(String[] args) throws Exception {
        LanguageTest t = new LanguageTest();
        t.all.add(TuneLocks.class);
        t.all.addAll(List.of(TuneLocks.class.getDeclaredClasses()));
        t.classesInside();
        t.members();
        t.library();
        t.source();
        t.methodsStayShort();
        t.c.finish();
    }

    /** Rules 2 and 11. */
    private void classesInside() {
        c.due("classes: " + all.size(), all.size() <= MOST_CLASSES, true);
        for (Class<?> k : all) {
            c.due(k + " has none inside", k.getDeclaredClasses().length, k == TuneLocks.class ? all.size() - 1 : 0);
            if (k != TuneLocks.class) {
                c.due(k + " is static", Modifier.isStatic(k.getModifiers()), true);
                c.due(k + " is private", Modifier.isPrivate(k.getModifiers()), true);
            }
        }
    }

    /** Rules 3, 5 and 11; rule 1 of names. */
    private void members() {
        for (Class<?> k : all) {
            int fields = 0;
            for (Field f : k.getDeclaredFields()) {
                boolean still = Modifier.isStatic(f.getModifiers());
                fields += still ? 0 : 1;
                c.due(f + " is no static state", still && !Modifier.isFinal(f.getModifiers()), false);
                c.due(f + " is of a type that can be", isType(f.getType(), still), true);
            }
            c.due(k + " has " + fields + " fields", fields <= MOST_FIELDS, true);
            for (Method m : k.getDeclaredMethods()) {
                c.due(m + " takes not too many", m.getParameterCount() <= MOST_PARAMETERS, true);
                c.due(m + " bears a name of its own", k != TuneLocks.class && isOfTheFace(m.getName()), false);
            }
        }
    }

    private boolean isType(Class<?> type, boolean still) {
        if (still) {
            return type == int.class || type == String.class || type == int[].class;
        }
        Class<?> element = type.isArray() ? type.getComponentType() : type;
        return element == int[].class || element == int.class || element == long.class || element == byte.class
                || element == boolean.class || all.contains(element);
    }

    private static boolean isOfTheFace(String name) {
        for (Method m : TuneLocks.class.getDeclaredMethods()) {
            if (Modifier.isPublic(m.getModifiers()) && m.getName().equals(name)) {
                return true;
            }
        }
        return false;
    }

    /** Rule 4: each method of another class that is called. */
    private void library() throws IOException {
        for (Class<?> k : all) {
            for (String method : methodsNamedIn(k)) {
                boolean own = method.startsWith("TuneLocks.") || method.startsWith("TuneLocks$");
                c.due(k + " calls " + method, own || LIBRARY.contains(method), true);
            }
        }
    }

    /** From the constants of a class file (JVMS 4.4): tag 7 a class, 10 and 11 a method, 12 its name and type, 1 a text. */
    private static List<String> methodsNamedIn(Class<?> k) throws IOException {
        List<String> methods = new ArrayList<>();
        try (InputStream stream = k.getResourceAsStream("/" + k.getName() + ".class");
                DataInputStream in = new DataInputStream(stream)) {
            in.readInt();
            in.readInt();
            int count = in.readUnsignedShort();
            int[] tags = new int[count];
            int[] first = new int[count];
            int[] second = new int[count];
            String[] texts = new String[count];
            for (int i = 1; i < count; i++) {
                tags[i] = in.readUnsignedByte();
                switch (tags[i]) {
                    case 1 -> texts[i] = in.readUTF();
                    case 7, 8, 16, 19, 20 -> first[i] = in.readUnsignedShort();
                    case 15 -> in.skipBytes(3);
                    case 5, 6 -> {
                        in.readLong();
                        i++;
                    }
                    default -> {
                        first[i] = in.readUnsignedShort();
                        second[i] = in.readUnsignedShort();
                    }
                }
            }
            for (int i = 1; i < count; i++) {
                if (tags[i] == 10 || tags[i] == 11) {
                    methods.add(texts[first[first[i]]] + "." + texts[first[second[i]]]);
                } else if (tags[i] >= 15 && tags[i] <= 18) {
                    methods.add("what is joined at run time");
                }
            }
        }
        return methods;
    }

    /** Rules 2, 3, 6, 10 and 13, by words that must not stand there. */
    private void source() throws IOException {
        String text = Files.readString(Path.of("src/main/java/TuneLocks.java"));
        c.due("plain signs", text.chars().allMatch(s -> s == 10 || s >= 32 && s < 127), true);
        String code = code(text);
        for (String f : FORBIDDEN) {
            String word = Character.isLetter(f.charAt(0)) ? "\\b" + f + (f.endsWith("{") ? "" : "\\b") : f;
            c.due("no " + f, Pattern.compile(word).matcher(code).find(), false);
        }
        Matcher m = Pattern.compile("import ([^;]*);").matcher(code);
        while (m.find()) {
            c.due("import " + m.group(1), m.group(1).equals("java.util.Arrays"), true);
        }
    }

    private static String code(String text) {
        return text.replaceAll("(?s)/\\*.*?\\*/", "").replaceAll("//[^\n]*", "").replaceAll("\"[^\"]*\"", "\"\"");
    }

    /** Rule 11. */
    private void methodsStayShort() throws IOException {
        int lines = 0;
        for (String line : code(Files.readString(Path.of("src/main/java/TuneLocks.java"))).split("\n")) {
            if (line.matches(" {4}( {4})?[a-zA-Z].*\\) \\{")) {
                lines = 0;
            }
            lines++;
            if (line.matches(" {4}( {4})?\\}")) {
                c.due("a method of " + lines + " lines", lines <= MOST_LINES, true);
                lines = 0;
            }
        }
    }
}
