import java.io.IOException;
import java.lang.reflect.Constructor;
import java.lang.reflect.Field;
import java.lang.reflect.Method;
import java.lang.reflect.Modifier;
import java.nio.file.Files;
import java.nio.file.Path;
import java.util.ArrayList;
import java.util.List;
import java.util.Set;
import java.util.TreeSet;

/** The face is the document's, and the source keeps to those rules of LANGUAGE.md that can be looked up. */
final class FaceTest {
    private static final Set<String> METHODS = Set.of("int act(int,int,int,int)", "int wipe()", "long put(int,int)",
            "int way(int,int)", "int begin()", "int run(int)", "int stop()", "int ended()", "int harm(int,int,int)",
            "int forget()", "int table(int,int)", "long value(int)", "int stack(int)", "int done(int)",
            "int fetched(int)", "int known()", "int told(int,int)", "int count(int)", "long digest()");
    private static final String[] FORBIDDEN = {"\\bthrow\\b", "\\btry\\b", "\\bcatch\\b", "\\bsynchronized\\b",
        "\\bassert\\b", "\\bimport\\b", "\\bpackage\\b", "->", "::", "\\bSystem\\.(?!arraycopy)", "\\bnative\\b",
        "\\bprotected\\b", "@", "Exact\\b", "\\bObject\\b", "\\?\\s*extends",
        "\\b(Integer|Long|Math)\\.[A-Z]"};

    public static void main(String[] args) throws IOException {
        constants();
        face();
        insideClasses();
        source();
        Due.end();
    }

    private static void constants() {
        Due.is("NONE", GuessFetch.NONE, -1);
        Due.is("UNKNOWN", GuessFetch.UNKNOWN, -101);
        Due.is("OUTSIDE", GuessFetch.OUTSIDE, -102);
        Due.is("STATE", GuessFetch.STATE, -103);
        Due.is("FULL", GuessFetch.FULL, -104);
    }

    private static void face() {
        Class<?> face = GuessFetch.class;
        Due.isTrue("public and final", Modifier.isPublic(face.getModifiers()) && Modifier.isFinal(face.getModifiers()));
        Due.isTrue("no package", face.getPackageName().isEmpty());
        Set<String> found = new TreeSet<>();
        for (Method m : face.getDeclaredMethods()) {
            if (Modifier.isPrivate(m.getModifiers()) || m.isSynthetic()) {
                continue;
            }
            List<String> types = new ArrayList<>();
            for (Class<?> type : m.getParameterTypes()) {
                types.add(type.getName());
            }
            found.add(m.getReturnType() + " " + m.getName() + "(" + String.join(",", types) + ")");
            Due.isTrue(m + " is public, not static", m.getModifiers() == Modifier.PUBLIC);
        }
        Due.isTrue("methods: " + found, found.equals(METHODS));
        Set<String> fields = new TreeSet<>();
        for (Field f : face.getDeclaredFields()) {
            if (!Modifier.isPrivate(f.getModifiers())) {
                fields.add(f.getName());
                Due.isTrue(f + " is a constant", Modifier.toString(f.getModifiers()).equals("public static final"));
            }
            Due.isTrue(f + ": static ones are final", !Modifier.isStatic(f.getModifiers()) || Modifier.isFinal(f.getModifiers()));
        }
        Due.isTrue("constants: " + fields, fields.equals(Set.of("NONE", "UNKNOWN", "OUTSIDE", "STATE", "FULL")));
        Constructor<?>[] constructors = face.getDeclaredConstructors();
        Due.is("constructors", constructors.length, 1);
        Due.isTrue("the constructor is public", Modifier.isPublic(constructors[0].getModifiers()));
        Due.is("its parameters", constructors[0].getParameterCount(), 0);
    }

    private static void insideClasses() {
        Set<String> names = new TreeSet<>();
        for (String method : METHODS) {
            names.add(method.substring(method.indexOf(' ') + 1, method.indexOf('(')));
        }
        List<Class<?>> classes = new ArrayList<>(List.of(GuessFetch.class.getDeclaredClasses()));
        Due.isTrue("some twelve classes", classes.size() <= 11);
        for (Class<?> inside : classes) {
            int m = inside.getModifiers();
            Due.isTrue(inside + " is static", Modifier.isStatic(m));
            Due.isTrue(inside + " is not public", !Modifier.isPublic(m) && !Modifier.isProtected(m));
        }
        classes.add(GuessFetch.class);
        for (Class<?> each : classes) {
            int own = 0;
            for (Field f : each.getDeclaredFields()) {
                own += Modifier.isStatic(f.getModifiers()) ? 0 : 1;
            }
            Due.isTrue(each + " has some twenty fields", own <= 20);
            for (Method method : each.getDeclaredMethods()) {
                Due.isTrue(method + ": at most seven parameters", method.getParameterCount() <= 7);
                Due.isTrue(method + " bears no public name",
                        Modifier.isPublic(method.getModifiers()) || !names.contains(method.getName()));
            }
        }
    }

    private static void source() throws IOException {
        String text = Files.readString(Path.of(System.getProperty("source", "src/main/java/GuessFetch.java")));
        for (int i = 0; i < text.length(); i++) {
            Due.isTrue("sign " + (int) text.charAt(i) + " at " + i, text.charAt(i) < 127);
        }
        String code = text.replaceAll("(?s)/\\*.*?\\*/", "").replaceAll("//[^\n]*", "");
        for (String word : FORBIDDEN) {
            Due.isTrue("no " + word, !java.util.regex.Pattern.compile(word).matcher(code).find());
        }
    }
}
