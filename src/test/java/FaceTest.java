import java.lang.reflect.Constructor;
import java.lang.reflect.Field;
import java.lang.reflect.Method;
import java.lang.reflect.Modifier;
import java.util.Arrays;
import java.util.Set;
import java.util.TreeSet;

/** The face of the document stands, and nothing else can be seen from outside (rule 1). */
public final class FaceTest {
    private static final String[] FACE = {
        "int object() IllegalStateException",
        "int function(int, int, int, int) IllegalArgumentException IllegalStateException",
        "int code(int, int, int, int) IllegalArgumentException IllegalStateException",
        "int segment(int, int, int) IllegalArgumentException IllegalStateException",
        "void fill(int, int, int, long) IllegalArgumentException",
        "int symbol(int, int, int, int, int, int) IllegalArgumentException IllegalStateException",
        "int link() IllegalStateException",
        "int place()",
        "int count(int) IllegalArgumentException IllegalStateException",
        "int byteAt(int) IllegalArgumentException IllegalStateException",
        "int meant(int, int, int) IllegalArgumentException IllegalStateException",
        "int run(int, int, long, long, int) IllegalArgumentException IllegalStateException",
        "long told(int) IllegalArgumentException",
        "int memory(int) IllegalArgumentException"};

    public static void main(String[] args) {
        Class<?> face = ObjectLinker.class;
        Check.same("public final", face.getModifiers(), Modifier.PUBLIC | Modifier.FINAL);
        Set<String> due = new TreeSet<>(Arrays.asList(FACE));
        Set<String> names = new TreeSet<>();
        for (Method method : face.getDeclaredMethods()) {
            if (!Modifier.isPrivate(method.getModifiers())) {
                Check.same(written(method) + " is of the face", due.remove(written(method)) ? 1 : 0, 1);
                names.add(method.getName());
            }
        }
        Check.same("missing of the face: " + due, due.size(), 0);
        for (Method method : face.getDeclaredMethods()) {
            boolean hidden = Modifier.isPrivate(method.getModifiers());
            Check.same("a private " + method.getName(), hidden && names.contains(method.getName()) ? 1 : 0, 0);
        }
        lookAtFields(face);
        for (Constructor<?> made : face.getDeclaredConstructors()) {
            Check.same("a public constructor without parameters",
                    Modifier.isPublic(made.getModifiers()) && made.getParameterCount() == 0 ? 1 : 0, 1);
        }
        for (Class<?> inside : face.getDeclaredClasses()) {
            int modifiers = inside.getModifiers();
            Check.same(inside + " is static and hidden", Modifier.isStatic(modifiers)
                    && !Modifier.isPublic(modifiers) && !Modifier.isProtected(modifiers) ? 1 : 0, 1);
        }
        Check.end();
    }

    private static void lookAtFields(Class<?> face) {
        for (Field field : face.getDeclaredFields()) {
            boolean constant = field.getName().equals("NONE");
            int due = constant ? Modifier.PUBLIC | Modifier.STATIC | Modifier.FINAL : Modifier.PRIVATE;
            int mask = constant ? due : Modifier.PUBLIC | Modifier.PROTECTED | Modifier.PRIVATE;
            Check.same("how " + field.getName() + " is seen", field.getModifiers() & mask, due);
        }
        Check.same("NONE", ObjectLinker.NONE, -1);
    }

    private static String written(Method method) {
        StringBuilder text = new StringBuilder();
        text.append(method.getReturnType()).append(' ').append(method.getName()).append('(');
        for (int i = 0; i < method.getParameterCount(); i++) {
            text.append(i == 0 ? "" : ", ").append(method.getParameterTypes()[i]);
        }
        text.append(')');
        for (Class<?> thrown : method.getExceptionTypes()) {
            text.append(' ').append(thrown.getSimpleName());
        }
        return text.toString();
    }
}
