import java.lang.reflect.Constructor;
import java.lang.reflect.Field;
import java.lang.reflect.Method;
import java.lang.reflect.Modifier;
import java.util.Set;
import java.util.TreeSet;

/** The document's face and no more; LANGUAGE.md, rule 1. */
public final class FaceTest {
    private static final String[] FACE = {
        "int feed(int,int,int,int,int)", "int end(int)", "int town()", "int fault(int)", "int notes(int)",
        "int step(int,int)", "int off(int,int,int)", "int in(int,int,int)", "int doors(int,boolean)",
        "int asked(int,int,boolean)", "int dealt(int)", "int master(int,int)", "int round(int,int)", "int good(int,int)",
        "int deaf(int,int,int)", "int least(int,boolean)", "int sing(int,int)", "int song(int,int)", "int silence()",
        "boolean shut(int)", "boolean night(boolean)", "int lock(int,int)", "int heard(int,int)",
        "int watch(int,boolean,boolean)", "boolean untell(int)", "int later(int)", "int left(int)", "int next(int,int)",
        "int image(int)", "int back(int)", "int about(int)"};

    private final Check c = new Check();

    public static void main(String[] args) {
        FaceTest t = new FaceTest();
        t.face();
        t.c.finish();
    }

    private void face() {
        Class<?> x = TuneLocks.class;
        int open = Modifier.PUBLIC | Modifier.FINAL;
        c.due("public and final", x.getModifiers() & open, open);
        Set<String> wanted = new TreeSet<>(Set.of(FACE));
        Set<String> names = new TreeSet<>();
        for (String f : FACE) {
            names.add(f.replaceAll(".* |\\(.*", ""));
        }
        for (Method m : x.getDeclaredMethods()) {
            StringBuilder s = new StringBuilder(m.getReturnType().getName()).append(' ').append(m.getName()).append('(');
            for (Class<?> p : m.getParameterTypes()) {
                s.append(s.charAt(s.length() - 1) == '(' ? "" : ",").append(p.getName());
            }
            s.append(')');
            if (Modifier.isPublic(m.getModifiers())) {
                c.due(s + " is of the face", wanted.remove(s.toString()), true);
            } else {
                c.due(s + " is private", Modifier.isPrivate(m.getModifiers()), true);
                c.due(s + " bears a name of its own", names.contains(m.getName()), false);
            }
        }
        c.due("missing: " + wanted, wanted.size(), 0);
        for (Field f : x.getDeclaredFields()) {
            boolean constant = f.getName().equals("NONE") || f.getName().equals("GAP");
            c.due(f + " is public", Modifier.isPublic(f.getModifiers()), constant);
            c.due(f + " is private", Modifier.isPrivate(f.getModifiers()), !constant);
            c.due(f + " is no static state", Modifier.isStatic(f.getModifiers()) && !Modifier.isFinal(f.getModifiers()), false);
        }
        Constructor<?>[] made = x.getDeclaredConstructors();
        c.due("one constructor", made.length, 1);
        c.due("a public one", Modifier.isPublic(made[0].getModifiers()), true);
        c.due("NONE", TuneLocks.NONE, -1);
        c.due("GAP", TuneLocks.GAP, -1000000);
    }
}
