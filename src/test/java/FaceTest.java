import java.lang.reflect.Constructor;
import java.lang.reflect.Field;
import java.lang.reflect.Method;
import java.lang.reflect.Modifier;
import java.util.Arrays;
import java.util.List;
import java.util.Set;
import java.util.TreeSet;

/** The public face is the document's, and no other member can be seen from outside. */
public final class FaceTest {
    private static final List<String> FACE = List.of(
            "boolean copy(int,int)", "boolean cut(int)", "boolean read(int,int)", "boolean same(int,int,boolean)",
            "boolean set(int,int)", "boolean type(char)", "int charAt(int,int,int)", "int length(int,int)",
            "int pairAt(int,int,boolean,int)", "int pairs(int)", "int port(int)", "int segments(int)");

    public static void main(String[] args) {
        Class<?> face = UrlDesk.class;
        Check.due("modifiers", face.getModifiers(), Modifier.PUBLIC | Modifier.FINAL);
        Check.due("superclass", face.getSuperclass(), Object.class);
        Check.due("interfaces", face.getInterfaces().length, 0);
        Set<String> methods = new TreeSet<>();
        Set<String> names = new TreeSet<>();
        for (Method method : face.getDeclaredMethods()) {
            if (!Modifier.isPrivate(method.getModifiers())) {
                Check.due("modifiers of " + method, method.getModifiers(), Modifier.PUBLIC);
                methods.add(told(method));
                names.add(method.getName());
            }
        }
        Check.due("methods", methods, new TreeSet<>(FACE));
        constants(face);
        Constructor<?>[] constructors = face.getDeclaredConstructors();
        Check.due("constructors", constructors.length, 1);
        Check.due("its modifiers", constructors[0].getModifiers(), Modifier.PUBLIC);
        Check.due("its parameters", constructors[0].getParameterCount(), 0);
        privateNames(face, names);
        for (Class<?> inside : face.getDeclaredClasses()) {
            Check.due(inside + " is static", Modifier.isStatic(inside.getModifiers()), true);
            privateNames(inside, names);
        }
        Check.end();
    }

    private static String told(Method method) {
        String parameters = Arrays.toString(Arrays.stream(method.getParameterTypes()).map(Class::getName).toArray());
        String joined = parameters.replaceAll("[\\[\\] ]", "");
        return method.getReturnType().getName() + " " + method.getName() + "(" + joined + ")";
    }

    private static void constants(Class<?> face) {
        Set<String> found = new TreeSet<>();
        for (Field field : face.getDeclaredFields()) {
            if (!Modifier.isPrivate(field.getModifiers())) {
                Check.due("modifiers of " + field, field.getModifiers(), Modifier.PUBLIC | Modifier.STATIC | Modifier.FINAL);
                found.add(field.getType().getName() + " " + field.getName());
            }
        }
        Check.due("constants", found, new TreeSet<>(List.of("int BAD", "int NONE")));
        Check.due("BAD", UrlDesk.BAD, -1);
        Check.due("NONE", UrlDesk.NONE, -2);
    }

    private static void privateNames(Class<?> inside, Set<String> names) {
        for (Method method : inside.getDeclaredMethods()) {
            boolean ofTheFace = inside == UrlDesk.class && !Modifier.isPrivate(method.getModifiers());
            Check.due(method + " bears a name of the face", !ofTheFace && names.contains(method.getName()), false);
        }
    }
}
