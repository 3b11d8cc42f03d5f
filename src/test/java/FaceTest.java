import java.lang.reflect.Constructor;
import java.lang.reflect.Field;
import java.lang.reflect.Method;
import java.lang.reflect.Modifier;
import java.util.Arrays;
import java.util.Set;
import java.util.TreeSet;

/** The public face is the document's, and nothing else of the class can be seen from outside. */
public final class FaceTest {
    private static final String ILLEGAL = "IllegalArgumentException";
    private static final String STATE = "IllegalStateException";
    private static final String INDEX = "IndexOutOfBoundsException";

    private static final String[] FACE = {
        "int about(int) [" + ILLEGAL + "]",
        "int append(int) [" + ILLEGAL + ", " + STATE + "]",
        "int cheapest() []",
        "int clearText() []",
        "int errorPosition() []",
        "int extra(int, int) [" + ILLEGAL + ", " + STATE + "]",
        "int extraOf(int, int) [" + INDEX + ", " + ILLEGAL + "]",
        "int lacks(int) [" + INDEX + "]",
        "int load() [" + STATE + "]",
        "int meal() []",
        "int nextDay() []",
        "int order(int, int) [" + INDEX + ", " + ILLEGAL + "]",
        "int replace(int, int, int) [" + INDEX + ", " + STATE + "]",
        "int restore(int) [" + INDEX + ", " + STATE + "]",
        "int runScript(int, long) [" + ILLEGAL + "]",
        "int save(int) [" + INDEX + "]",
        "int scene(int, int, int, int, int) [" + ILLEGAL + ", " + STATE + "]",
        "int sceneOf(int, int) [" + INDEX + ", " + ILLEGAL + "]",
        "int set(int, int) [" + ILLEGAL + "]",
        "int setting(int) [" + ILLEGAL + "]",
        "int shoot(int) [" + INDEX + ", " + STATE + "]",
        "int simulate(long, int) [" + ILLEGAL + "]",
        "int undo() [" + STATE + "]",
        "int why(int, int) [" + INDEX + "]",
        "int would(int, int) [" + INDEX + ", " + ILLEGAL + "]",
    };

    private FaceTest() {
    }

    public static void main(String[] args) {
        Class<CrowdFaces> face = CrowdFaces.class;
        Check.same("the class is public and final", face.getModifiers(), Modifier.PUBLIC | Modifier.FINAL);
        Check.same("the methods", methods(face).toString(), new TreeSet<>(Arrays.asList(FACE)).toString());
        Check.same("the fields", fields(face).toString(), "[int NONE]");
        Check.same("NONE", CrowdFaces.NONE, -1);
        for (Constructor<?> constructor : face.getDeclaredConstructors()) {
            Check.same("the constructor", constructor.toString(), "public CrowdFaces()");
        }
        noNameTwice(face);
        Check.finish();
    }

    private static Set<String> methods(Class<?> face) {
        Set<String> found = new TreeSet<>();
        for (Method m : face.getDeclaredMethods()) {
            if (!Modifier.isPrivate(m.getModifiers())) {
                Check.same(m + " is public and not static", m.getModifiers(), Modifier.PUBLIC);
                found.add(m.getReturnType() + " " + m.getName() + names(m.getParameterTypes(), "(", ")") + " "
                        + names(m.getExceptionTypes(), "[", "]"));
            }
        }
        return found;
    }

    private static Set<String> fields(Class<?> face) {
        Set<String> found = new TreeSet<>();
        for (Field f : face.getDeclaredFields()) {
            if (!Modifier.isPrivate(f.getModifiers())) {
                Check.same(f + " is a public constant", f.getModifiers(),
                        Modifier.PUBLIC | Modifier.STATIC | Modifier.FINAL);
                found.add(f.getType() + " " + f.getName());
            }
            if (Modifier.isStatic(f.getModifiers())) {
                Check.same(f + " is final", f.getModifiers() & Modifier.FINAL, Modifier.FINAL);
            }
        }
        return found;
    }

    private static void noNameTwice(Class<?> face) {
        Set<String> names = new TreeSet<>();
        for (Method m : face.getMethods()) {
            if (m.getDeclaringClass() == face) {
                names.add(m.getName());
            }
        }
        for (Method m : face.getDeclaredMethods()) {
            if (Modifier.isPrivate(m.getModifiers())) {
                Check.same(m + " has a public name", names.contains(m.getName()) ? 1 : 0, 0);
            }
        }
        for (Class<?> inside : face.getDeclaredClasses()) {
            Check.same(inside + " is not public", inside.getModifiers() & (Modifier.PUBLIC | Modifier.PROTECTED), 0);
        }
    }

    private static String names(Class<?>[] types, String open, String close) {
        StringBuilder told = new StringBuilder(open);
        for (int k = 0; k < types.length; k++) {
            told.append(k == 0 ? "" : ", ").append(types[k].getSimpleName());
        }
        return told.append(close).toString();
    }
}
