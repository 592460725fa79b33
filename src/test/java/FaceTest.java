import java.lang.reflect.Constructor;
import java.lang.reflect.Field;
import java.lang.reflect.Method;
import java.lang.reflect.Modifier;
import java.util.Arrays;
import java.util.TreeSet;

/** The public face, and nothing beside it. */
public final class FaceTest {
    private static final String[] METHODS = {
        "int type(long)", "int suffix()", "int pass(int)", "int open()", "void close(int)!", "void focus(int)!",
        "int enter()", "int child(int)!", "int navigate(int,int)!", "int fetch(int,int,boolean)!",
        "void answer(int)!", "void set(int)!", "void leave(int,boolean)!", "boolean lead(int)!",
        "int cookies(int)!", "boolean cookie(int)!", "boolean store(int,int,int)!", "int stored(int,int)!",
        "boolean post(int,int,int)!", "int bar()", "int about(int,int)", "int message(int,int)",
        "int letter(int,int)", "void clear()", "int shown(int)"};

    public static void main(String[] args) {
        Class<?> face = TabKernel.class;
        Bench.same("NONE", TabKernel.NONE, -1);
        Bench.same("the class", face.getModifiers(), Modifier.PUBLIC | Modifier.FINAL);
        Bench.same("methods", methods(face), new TreeSet<>(Arrays.asList(METHODS)));
        Bench.same("fields", fields(face), "NONE");
        Constructor<?>[] made = face.getDeclaredConstructors();
        Bench.same("constructors", made.length, 1);
        Bench.same("constructor", made[0].toString(), "public TabKernel(int)");
        for (Class<?> inside : face.getDeclaredClasses()) {
            Bench.same(inside.getName() + " is static", Modifier.isStatic(inside.getModifiers()), true);
        }
        Bench.end();
    }

    private static TreeSet<String> methods(Class<?> face) {
        TreeSet<String> found = new TreeSet<>();
        for (Method method : face.getDeclaredMethods()) {
            if (!Modifier.isPrivate(method.getModifiers())) {
                String whole = method.toString().replace("public ", "").replace("TabKernel.", "");
                found.add(whole.replace(" throws java.lang.IndexOutOfBoundsException", "!"));
            }
        }
        return found;
    }

    private static String fields(Class<?> face) {
        StringBuilder found = new StringBuilder();
        for (Field field : face.getDeclaredFields()) {
            boolean constant = Modifier.isStatic(field.getModifiers());
            Bench.same(field.getName() + " is final if static", !constant || Modifier.isFinal(field.getModifiers()), true);
            if (!Modifier.isPrivate(field.getModifiers())) {
                found.append(field.getName());
            }
        }
        return found.toString();
    }
}
