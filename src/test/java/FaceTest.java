import java.lang.reflect.Constructor;
import java.lang.reflect.Field;
import java.lang.reflect.Member;
import java.lang.reflect.Method;
import java.lang.reflect.Modifier;
import java.util.Arrays;
import java.util.Collection;
import java.util.Set;
import java.util.TreeSet;

/** The public face is the document's and nothing else, as rules 1, 5 and 11 of LANGUAGE.md ask. */
public final class FaceTest {
    private static final Set<String> FACE = new TreeSet<>(Arrays.asList(
            "boolean member(int, int)",
            "boolean say(int)",
            "boolean send(int, int, int, int)",
            "int serve(int, int)",
            "boolean flush(int, int)",
            "boolean hangUp(int)",
            "int reply(int)",
            "int waiting(int)",
            "int fid(int, int)",
            "int sync(int)",
            "int snapshot()",
            "void crash()",
            "int blocks()",
            "int nodes()"));

    public static void main(String[] args) {
        Check.part("the face");
        Check.yes("the class is public", Modifier.isPublic(SnapshotFiles.class.getModifiers()));
        Check.yes("the class is final", Modifier.isFinal(SnapshotFiles.class.getModifiers()));
        publicMethods();
        constructor();
        fieldsArePrivate();
        classesInside();
        Check.end();
    }

    private static void publicMethods() {
        Set<String> found = new TreeSet<>();
        Set<String> names = new TreeSet<>();
        for (Method method : ownMethods(SnapshotFiles.class)) {
            if (Modifier.isPublic(method.getModifiers())) {
                found.add(tell(method));
                names.add(method.getName());
            }
        }
        Check.yes("the public methods " + found, found.equals(FACE));
        for (Method method : ownMethods(SnapshotFiles.class)) {
            if (!Modifier.isPublic(method.getModifiers())) {
                isPrivate(method);
                Check.no("a private method named " + method.getName(), names.contains(method.getName()));
            }
        }
    }

    private static void constructor() {
        Constructor<?>[] constructors = SnapshotFiles.class.getDeclaredConstructors();
        Check.same("constructors", constructors.length, 1);
        Check.yes("it is public", Modifier.isPublic(constructors[0].getModifiers()));
        Check.same("its parameters", constructors[0].getParameterCount(), 0);
    }

    private static void fieldsArePrivate() {
        for (Field field : SnapshotFiles.class.getDeclaredFields()) {
            isPrivate(field);
            if (Modifier.isStatic(field.getModifiers())) {
                Check.yes(field.getName() + " is final", Modifier.isFinal(field.getModifiers()));
            }
        }
    }

    private static void classesInside() {
        Class<?>[] inside = SnapshotFiles.class.getDeclaredClasses();
        Check.yes("at most some twelve classes", inside.length <= 11);
        for (Class<?> one : inside) {
            Check.yes(one.getName() + " is static", Modifier.isStatic(one.getModifiers()));
            Check.no(one.getName() + " is public", Modifier.isPublic(one.getModifiers()));
            Check.yes("fields of " + one.getName(), one.getDeclaredFields().length <= 20);
            for (Method method : ownMethods(one)) {
                Check.yes("parameters of " + method.getName(), method.getParameterCount() <= 7);
            }
        }
    }

    private static void isPrivate(Member member) {
        Check.yes(member.getName() + " is private", Modifier.isPrivate(member.getModifiers()));
    }

    private static Collection<Method> ownMethods(Class<?> type) {
        return Arrays.stream(type.getDeclaredMethods()).filter(method -> !method.isSynthetic()).toList();
    }

    private static String tell(Method method) {
        StringBuilder text = new StringBuilder();
        text.append(method.getReturnType().getName()).append(' ').append(method.getName()).append('(');
        String between = "";
        for (Class<?> parameter : method.getParameterTypes()) {
            text.append(between).append(parameter.getName());
            between = ", ";
        }
        return text.append(')').toString();
    }
}
