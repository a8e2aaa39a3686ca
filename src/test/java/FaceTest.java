import java.io.IOException;
import java.lang.reflect.Constructor;
import java.lang.reflect.Field;
import java.lang.reflect.Method;
import java.lang.reflect.Modifier;
import java.nio.file.Files;
import java.nio.file.Path;
import java.util.Set;
import java.util.TreeSet;

/** The public face is the document's and no more; the rules of the language that can be seen hold. */
public final class FaceTest {
    private static final String[] FACE = {
        "boolean density(int,int)", "boolean row(int,long,int)", "int layer(int,int,long)", "boolean roll(int,int)",
        "int run(int)", "boolean cover(int,int)", "int survey(int,long)", "long height(int)", "long thickness(int,int)",
        "long mass(int,int)", "int covered(int)", "int surface()", "boolean point(int,int,int,int)",
        "long room(int,int,int)", "int phase(int,int,long)", "boolean kept(int)", "int crack(int,long)",
        "int factor(int)", "long sum()", "int fit(int)"
    };
    private static final String[] RULED_OUT = {
        "package ", "import ", "->", "::", "try", "catch", "finally", "throw", "synchronized", "assert", "Exact(",
        "System.out", "hashCode", "toString", "double", "float", "while (true)", "for (;;)"
    };
    private static final int MOST_CLASSES = 12;
    private static final int MOST_FIELDS = 20;
    private static final int MOST_PARAMETERS = 7;

    private FaceTest() {
    }

    public static void main(String[] args) throws IOException {
        face();
        Class<?>[] inside = CellSettling.class.getDeclaredClasses();
        Due.yes("rule 11: classes", inside.length < MOST_CLASSES);
        members(CellSettling.class);
        for (Class<?> c : inside) {
            Due.yes("rule 1: static " + c, Modifier.isStatic(c.getModifiers()));
            Due.no("rule 1: not public " + c, Modifier.isPublic(c.getModifiers()) || Modifier.isProtected(c.getModifiers()));
            members(c);
            for (Method m : c.getDeclaredMethods()) {
                Due.no("rule 1: a name of the face in " + c + ": " + m, faceNames().contains(m.getName()));
            }
        }
        source();
        Due.end();
    }

    private static void face() {
        Class<?> c = CellSettling.class;
        Due.yes("rule 1: public and final", Modifier.isPublic(c.getModifiers()) && Modifier.isFinal(c.getModifiers()));
        Set<String> due = new TreeSet<>(Set.of(FACE));
        for (Method m : c.getDeclaredMethods()) {
            if (m.isSynthetic()) {
                continue;
            }
            if (Modifier.isPublic(m.getModifiers())) {
                Due.yes("the document's: " + signature(m), due.remove(signature(m)) && !Modifier.isStatic(m.getModifiers()));
            } else {
                Due.yes("rule 1: private " + m, Modifier.isPrivate(m.getModifiers()));
                Due.no("rule 1: a name of the face " + m, faceNames().contains(m.getName()));
            }
        }
        Due.is("methods that are missing: " + due, due.size(), 0);
        Constructor<?>[] made = c.getDeclaredConstructors();
        Due.is("constructors", made.length, 1);
        Due.same("the constructor", made[0].toString(), "public CellSettling(int,int)");
        Due.is("NONE", CellSettling.NONE, -1);
        for (Field f : c.getDeclaredFields()) {
            boolean isNone = f.getName().equals("NONE");
            Due.is("rule 1: " + f, Modifier.isPublic(f.getModifiers()) ? 1 : 0, isNone ? 1 : 0);
            Due.is("rule 1: " + f, Modifier.isPrivate(f.getModifiers()) ? 1 : 0, isNone ? 0 : 1);
        }
    }

    private static void members(Class<?> c) {
        int fields = 0;
        for (Field f : c.getDeclaredFields()) {
            boolean isStatic = Modifier.isStatic(f.getModifiers());
            Due.yes("rule 5: final " + f, !isStatic || Modifier.isFinal(f.getModifiers()));
            fields += isStatic ? 0 : 1;
        }
        Due.yes("rule 11: fields of " + c, fields <= MOST_FIELDS);
        for (Method m : c.getDeclaredMethods()) {
            Due.yes("rule 11: parameters of " + m, m.getParameterCount() <= MOST_PARAMETERS);
        }
    }

    private static Set<String> faceNames() {
        Set<String> names = new TreeSet<>();
        for (String s : FACE) {
            names.add(s.substring(s.indexOf(' ') + 1, s.indexOf('(')));
        }
        return names;
    }

    private static String signature(Method m) {
        StringBuilder all = new StringBuilder(m.getReturnType().getName() + " " + m.getName() + "(");
        for (Class<?> p : m.getParameterTypes()) {
            all.append(all.charAt(all.length() - 1) == '(' ? "" : ",").append(p.getName());
        }
        return all.append(')').toString();
    }

    private static void source() throws IOException {
        String text = Files.readString(Path.of("src/main/java/CellSettling.java"));
        String code = text.replaceAll("(?s)/\\*.*?\\*/", "").replaceAll("//.*", "");
        for (String word : RULED_OUT) {
            Due.no("LANGUAGE.md: the source has '" + word + "'", code.contains(word));
        }
        Due.yes("rule 3: characters 0 to 255", text.chars().allMatch(ch -> ch < 256));
    }
}
