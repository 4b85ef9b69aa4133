import java.lang.reflect.Constructor;
import java.lang.reflect.Field;
import java.lang.reflect.Method;
import java.lang.reflect.Modifier;
import java.util.Arrays;
import java.util.Set;
import java.util.TreeSet;

/** The public face, and what LANGUAGE.md says of members. */
public final class FaceTest {
    private static final String[] METHODS = {
        "public int flash(int,int) throws IllegalArgumentException,IllegalStateException",
        "public int boot()",
        "public int halt() throws IllegalStateException",
        "public boolean ways(int,int)",
        "public int run(int) throws IllegalArgumentException,IllegalStateException",
        "public int tick(int) throws IllegalArgumentException,IllegalStateException",
        "public boolean press(int,boolean) throws IllegalArgumentException,IllegalStateException",
        "public int register(int,int) throws NoSuchElementException,IllegalArgumentException",
        "public int word(int) throws IllegalArgumentException",
        "public int look(int,int) throws NoSuchElementException,IllegalArgumentException",
        "public int console(int) throws IndexOutOfBoundsException",
        "public int count(int) throws IllegalArgumentException",
    };

    public static void main(String[] args) {
        face();
        constants();
        members(GrantKernel.class);
        for (Class<?> inside : GrantKernel.class.getDeclaredClasses()) {
            int m = inside.getModifiers();
            Check.due(inside + " is static", Modifier.isStatic(m), true);
            Check.due(inside + " is hidden", Modifier.isPublic(m) || Modifier.isProtected(m), false);
            members(inside);
        }
        Check.done();
    }

    private static String plain(Method m) {
        return m.toString().replace("java.lang.", "").replace("java.util.", "").replace("GrantKernel.", "");
    }

    private static void face() {
        int m = GrantKernel.class.getModifiers();
        Check.due("the class is public and final", Modifier.isPublic(m) && Modifier.isFinal(m), true);
        Set<String> want = new TreeSet<>(Arrays.asList(METHODS));
        Set<String> names = new TreeSet<>();
        for (Method method : GrantKernel.class.getDeclaredMethods()) {
            if (!Modifier.isPrivate(method.getModifiers())) {
                Check.due(plain(method) + " is of the face", want.remove(plain(method)), true);
                names.add(method.getName());
            }
        }
        for (String missing : want) {
            Check.due(missing + " is there", false, true);
        }
        for (Method method : GrantKernel.class.getDeclaredMethods()) {
            boolean isPrivate = Modifier.isPrivate(method.getModifiers());
            Check.due(method + " hides behind a public name", isPrivate && names.contains(method.getName()), false);
        }
        Constructor<?>[] constructors = GrantKernel.class.getDeclaredConstructors();
        Check.due("constructors", constructors.length, 1);
        Check.due("constructor's parameters", constructors[0].getParameterCount(), 0);
        Check.due("constructor is public", Modifier.isPublic(constructors[0].getModifiers()), true);
    }

    private static void constants() {
        Check.due("READY", GrantKernel.READY, 0);
        Check.due("YIELDED", GrantKernel.YIELDED, 1);
        Check.due("STOPPED", GrantKernel.STOPPED, 2);
        Check.due("FAULTED", GrantKernel.FAULTED, 3);
        int seen = 0;
        for (Field field : GrantKernel.class.getDeclaredFields()) {
            if (!Modifier.isPrivate(field.getModifiers())) {
                seen++;
            }
        }
        Check.due("fields that can be seen", seen, 4);
    }

    /** Rules 5 and 11. */
    private static void members(Class<?> c) {
        int fields = 0;
        for (Field field : c.getDeclaredFields()) {
            if (Modifier.isStatic(field.getModifiers())) {
                Check.due(field + " is final", Modifier.isFinal(field.getModifiers()), true);
            } else {
                fields++;
            }
        }
        Check.due(c + " has few fields", fields <= 20, true);
        for (Method method : c.getDeclaredMethods()) {
            Check.due(method + " has few parameters", method.getParameterCount() <= 7, true);
        }
    }
}
