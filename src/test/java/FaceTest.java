import java.lang.reflect.Constructor;
import java.lang.reflect.Field;
import java.lang.reflect.Method;
import java.lang.reflect.Modifier;
import java.util.Arrays;
import java.util.Set;
import java.util.TreeSet;
import java.util.stream.Collectors;

/** The public face, and nothing visible beside it. */
final class FaceTest {
    private static final Due due = new Due();

    public static void main(String[] args) {
        Class<?> face = MothTongue.class;
        due.isTrue("public and final", Modifier.isPublic(face.getModifiers()) && Modifier.isFinal(face.getModifiers()));
        due.isTrue("no package", face.getPackageName().isEmpty());
        Constructor<?>[] constructors = face.getDeclaredConstructors();
        due.is("constructors", constructors.length, 1);
        due.isTrue("a public one without numbers",
                Modifier.isPublic(constructors[0].getModifiers()) && constructors[0].getParameterCount() == 0);
        methods(face);
        for (Field field : face.getDeclaredFields()) {
            due.isTrue("private: " + field, Modifier.isPrivate(field.getModifiers()));
        }
        inside(face);
        due.end();
    }

    private static void methods(Class<?> face) {
        Set<String> due0 = new TreeSet<>();
        for (String call : Calls.FACE) {
            String[] parts = call.split(" ");
            String type = parts[0].equals("odds") ? "long " : "int ";
            due0.add(type + parts[0] + " of ints: " + parts[1]);
        }
        Set<String> got = new TreeSet<>();
        for (Method method : face.getDeclaredMethods()) {
            if (Modifier.isPrivate(method.getModifiers())) {
                String name = method.getName();
                due.isTrue("no private method bears a public name: " + name,
                        Arrays.stream(Calls.FACE).noneMatch(call -> call.startsWith(name + " ")));
                continue;
            }
            due.isTrue("public: " + method, method.getModifiers() == Modifier.PUBLIC);
            due.isTrue("takes ints: " + method, Arrays.stream(method.getParameterTypes()).allMatch(t -> t == int.class));
            got.add(method.getReturnType() + " " + method.getName() + " of ints: " + method.getParameterCount());
        }
        due.is("methods of the face", Calls.FACE.length, 42);
        due.isTrue("the face is as the document tells it, but got "
                + got.stream().filter(m -> !due0.contains(m)).collect(Collectors.joining(", ")), got.equals(due0));
    }

    private static void inside(Class<?> face) {
        for (Class<?> inner : face.getDeclaredClasses()) {
            int modifiers = inner.getModifiers();
            due.isTrue("static: " + inner, Modifier.isStatic(modifiers));
            due.isTrue("not visible: " + inner, !Modifier.isPublic(modifiers) && !Modifier.isProtected(modifiers));
            for (Method method : inner.getDeclaredMethods()) {
                due.isTrue("at most seven parameters: " + method, method.getParameterCount() <= 7);
            }
            for (Field field : inner.getDeclaredFields()) {
                boolean isConstant = Modifier.isStatic(field.getModifiers()) && Modifier.isFinal(field.getModifiers());
                due.isTrue("no static state: " + field, isConstant || !Modifier.isStatic(field.getModifiers()));
            }
        }
    }
}
