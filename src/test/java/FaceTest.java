import java.lang.reflect.Constructor;
import java.lang.reflect.Field;
import java.lang.reflect.Method;
import java.lang.reflect.Modifier;
import java.util.Arrays;
import java.util.List;
import java.util.Set;
import java.util.TreeSet;

/** The public face: the document's constants, constructor and methods, just these; and rule 1 of the language. */
public final class FaceTest {
    private static final List<String> METHODS = List.of(
            "write(long,int)", "erase()", "fault()", "cloister()", "gong(int,int)", "monk(int,int)", "as(int,int)",
            "strike(int)", "go(int)", "turn(int)", "keep(int)", "back(int)", "first(int,int)", "who(int)", "ends(int)",
            "round(int)", "times(int,int,int)", "apart(int,int,int)", "change(int,int,int,int)", "over(int,int)",
            "odds(int,int,int,int)", "seen(int,int)", "forget()", "asleep(int,int)", "count(int)");

    public static void main(String[] args) throws ReflectiveOperationException {
        Class<?> face = HundredGongs.class;
        Due.isTrue("public and final", Modifier.isPublic(face.getModifiers()) && Modifier.isFinal(face.getModifiers()));
        Due.isTrue("without a package", face.getPackageName().isEmpty());
        methods(face);
        constants(face);
        Constructor<?>[] constructors = face.getDeclaredConstructors();
        Due.is("constructors", constructors.length, 1);
        Due.is("public without parameters", constructors[0].getParameterCount(), 0);
        Due.isTrue("a public constructor", Modifier.isPublic(constructors[0].getModifiers()));
        classesInside(face);
        Due.end("FaceTest");
    }

    private static void methods(Class<?> face) {
        Set<String> found = new TreeSet<>();
        for (Method method : face.getDeclaredMethods()) {
            if (!Modifier.isPrivate(method.getModifiers())) {
                Due.isTrue("public: " + method, Modifier.isPublic(method.getModifiers()) && !Modifier.isStatic(method.getModifiers()));
                Due.isTrue("int: " + method, method.getReturnType() == int.class);
                found.add(signature(method));
            } else {
                Due.isTrue("a name of its own: " + method, METHODS.stream().noneMatch(name -> name.startsWith(method.getName() + "(")));
            }
        }
        Due.is("methods", found.size(), 25);
        Due.isTrue("just these: " + found, found.equals(new TreeSet<>(METHODS)));
    }

    private static String signature(Method method) {
        String parameters = Arrays.toString(Arrays.stream(method.getParameterTypes()).map(Class::getName).toArray());
        return method.getName() + "(" + parameters.replaceAll("[\\[\\] ]", "") + ")";
    }

    private static void constants(Class<?> face) throws ReflectiveOperationException {
        List<String> names = List.of("NONE", "UNKNOWN", "OUTSIDE", "NOT", "FULL");
        int open = 0;
        for (Field field : face.getDeclaredFields()) {
            if (!Modifier.isPrivate(field.getModifiers())) {
                open++;
                int want = -1 - names.indexOf(field.getName());
                Due.isTrue("a constant: " + field, Modifier.isStatic(field.getModifiers()) && Modifier.isFinal(field.getModifiers()));
                Due.is(field.getName(), field.getInt(null), want);
            }
        }
        Due.is("constants", open, 5);
    }

    private static void classesInside(Class<?> face) {
        Due.is("no public class inside", face.getClasses().length, 0);
        Due.isTrue("some twelve classes", face.getDeclaredClasses().length < 12);
        for (Class<?> inside : face.getDeclaredClasses()) {
            Due.isTrue("static: " + inside, Modifier.isStatic(inside.getModifiers()));
            Due.isTrue("some twenty fields: " + inside, inside.getDeclaredFields().length <= 20);
            for (Method method : inside.getDeclaredMethods()) {
                boolean likeAPublicOne = METHODS.stream().anyMatch(name -> name.startsWith(method.getName() + "("));
                Due.isTrue("a name of its own: " + method, !likeAPublicOne);
            }
        }
    }
}
