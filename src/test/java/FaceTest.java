import java.lang.reflect.Constructor;
import java.lang.reflect.Field;
import java.lang.reflect.Method;
import java.lang.reflect.Modifier;
import java.nio.charset.StandardCharsets;
import java.nio.file.Files;
import java.nio.file.Path;
import java.util.Arrays;
import java.util.Set;
import java.util.TreeSet;

/** The public face is the document's and no more; the source keeps away from what LANGUAGE.md forbids by word. */
public final class FaceTest {
    private static final String[] FACE = {
        "int walker(int,int,int)", "int of(int,int)", "int at(int,int)", "int set(int,int)", "int weigh(int,int)",
        "int line(int,int,int)", "int milk(int)", "int stir(int,int)", "int feed(int)", "int brew()", "int told(int)",
        "int pass(int)", "int on(int,int)", "int soon(int)", "int way(int,int)", "int reach(int,int,int)",
        "int heaviest(int)", "int cut(int,int)", "int stirred(int)", "int meet(int,int)", "int print(int)",
        "int see(int,boolean,int)", "int heft(int,int)", "int can(int,int)", "int was(int,int,int,int)",
        "long odds(int,int)", "long mean(int,int)", "int afternoon(int,int)", "int ends(int)", "int book(int,int)",
        "int looked()", "int judge(int,int)", "int image()", "int undo()", "int act(int,int,int)", "int trace(int)",
        "int taken(int,int)", "int count(int)", "int tape(int,int,int)", "int item(int,int,long)", "long read(int,int)",
        "int shift(int,int,int,int,int)"
    };
    private static final String[] FORBIDDEN = {
        "throw", "try", "catch", "synchronized", "assert", "import", "protected", "volatile", "transient", "native"
    };

    public static void main(String[] args) throws Exception {
        Due due = new Due();
        due.is("NONE", BearMouse.NONE, -1);
        due.is("BAD", BearMouse.BAD, -2);
        due.is("STATE", BearMouse.STATE, -3);
        due.is("FULL", BearMouse.FULL, -4);
        due.is("NO", BearMouse.NO, Long.MIN_VALUE);
        methods(due);
        members(due);
        source(due);
        due.end();
    }

    private static void methods(Due due) {
        Set<String> want = new TreeSet<>(Set.of(FACE));
        Set<String> got = new TreeSet<>();
        Set<String> open = new TreeSet<>();
        for (Method m : BearMouse.class.getDeclaredMethods()) {
            if (Modifier.isPublic(m.getModifiers())) {
                got.add(told(m));
                open.add(m.getName());
            }
        }
        due.holds("the public methods are the document's: " + got, got.equals(want));
        for (Class<?> c : BearMouse.class.getDeclaredClasses()) {
            for (Method m : c.getDeclaredMethods()) {
                due.holds(m + " bears no public name", !open.contains(m.getName()));
            }
        }
        for (Method m : BearMouse.class.getDeclaredMethods()) {
            int mods = m.getModifiers();
            due.holds(m + " is public or private", Modifier.isPublic(mods) || Modifier.isPrivate(mods));
            due.holds(m + " bears no public name", Modifier.isPublic(mods) || !open.contains(m.getName()));
            due.holds(m + " has seven parameters at most", m.getParameterCount() <= 7);
        }
    }

    private static String told(Method m) {
        StringBuilder out = new StringBuilder(m.getReturnType().getName()).append(' ').append(m.getName()).append('(');
        String comma = "";
        for (Class<?> p : m.getParameterTypes()) {
            out.append(comma).append(p.getName());
            comma = ",";
        }
        return out.append(')').toString();
    }

    private static void members(Due due) {
        int mods = BearMouse.class.getModifiers();
        due.holds("public and final", Modifier.isPublic(mods) && Modifier.isFinal(mods));
        Constructor<?>[] made = BearMouse.class.getDeclaredConstructors();
        due.is("constructors", made.length, 1);
        due.holds("made of nothing", made[0].getParameterCount() == 0 && Modifier.isPublic(made[0].getModifiers()));
        Set<String> open = new TreeSet<>();
        for (Field f : BearMouse.class.getDeclaredFields()) {
            int m = f.getModifiers();
            due.holds(f + " is public or private", Modifier.isPublic(m) || Modifier.isPrivate(m));
            due.holds(f + ": what is static is final", !Modifier.isStatic(m) || Modifier.isFinal(m));
            if (Modifier.isPublic(m)) {
                open.add(f.getName());
            }
        }
        due.holds("the constants", open.equals(Set.of("NONE", "BAD", "STATE", "FULL", "NO")));
        for (Class<?> c : BearMouse.class.getDeclaredClasses()) {
            due.holds(c + " is static", Modifier.isStatic(c.getModifiers()));
            due.holds(c + " is not public", !Modifier.isPublic(c.getModifiers()));
        }
    }

    private static void source(Due due) throws Exception {
        String text = Files.readString(Path.of("src/main/java/BearMouse.java"), StandardCharsets.ISO_8859_1);
        for (int i = 0; i < text.length(); i++) {
            due.holds("sign " + i + " is plain", text.charAt(i) < 127);
        }
        String code = text.replaceAll("(?s)/\\*.*?\\*/", " ").replaceAll("//[^\n]*", " ").replaceAll("\"[^\"]*\"", " ");
        Set<String> words = new TreeSet<>(Arrays.asList(code.split("[^A-Za-z0-9_]+")));
        for (String word : FORBIDDEN) {
            due.holds("no " + word, !words.contains(word));
        }
        due.holds("no lambda", !code.contains("->"));
        due.holds("no method reference", !code.contains("::"));
    }
}
