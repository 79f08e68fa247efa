import java.lang.reflect.Constructor;
import java.lang.reflect.Field;
import java.lang.reflect.Method;
import java.lang.reflect.Modifier;
import java.util.Arrays;
import java.util.Set;
import java.util.TreeSet;
import java.util.stream.Collectors;

/** The class has the document's face and, by rule 1 of LANGUAGE.md, nothing beside it. */
final class FaceTest {
    private static final String[] FACE = {
        "int insert(int,int,int) NoSuchElementException IndexOutOfBoundsException IllegalArgumentException UnsupportedOperationException",
        "int delete(int) NoSuchElementException IllegalArgumentException",
        "void move(int,int,int) NoSuchElementException IllegalArgumentException IndexOutOfBoundsException",
        "void relabel(int,int) NoSuchElementException IllegalArgumentException",
        "int commit() UnsupportedOperationException",
        "void checkout(int) NoSuchElementException",
        "int base(int,int) NoSuchElementException",
        "int merge(int) NoSuchElementException IllegalStateException",
        "int conflict(int) NoSuchElementException",
        "int about(int,int) NoSuchElementException IndexOutOfBoundsException",
        "int child(int,int) NoSuchElementException IndexOutOfBoundsException",
        "int nodes(boolean)",
        "int count(int)",
        "int find(int,int) NoSuchElementException",
        "int alike(int) NoSuchElementException",
        "int distance(int,int) NoSuchElementException",
        "int state(int) IllegalArgumentException",
        "int above(int,int) NoSuchElementException IndexOutOfBoundsException",
    };

    public static void main(String[] args) throws ReflectiveOperationException {
        Check check = new Check("FaceTest");
        Class<?> face = GroveMerge.class;
        check.same("public and final", face.getModifiers(), Modifier.PUBLIC | Modifier.FINAL);
        check.same("the visible methods", visibleMethods(face), new TreeSet<>(Arrays.asList(FACE)));
        check.same("the constructors", face.getDeclaredConstructors().length, 1);
        for (Constructor<?> constructor : face.getDeclaredConstructors()) {
            check.same("the constructor", constructor.toString(), "public GroveMerge()");
        }
        checkFields(check, face);
        checkNames(check, face);
        checkNested(check, face);
        check.end();
    }

    private static Set<String> visibleMethods(Class<?> face) {
        return Arrays.stream(face.getDeclaredMethods())
                .filter(method -> !Modifier.isPrivate(method.getModifiers()))
                .map(FaceTest::signature)
                .collect(Collectors.toCollection(TreeSet::new));
    }

    private static String signature(Method method) {
        String parameters = Arrays.stream(method.getParameterTypes()).map(Class::getSimpleName)
                .collect(Collectors.joining(","));
        String thrown = Arrays.stream(method.getExceptionTypes()).map(Class::getSimpleName)
                .map(name -> " " + name).collect(Collectors.joining());
        return method.getReturnType().getSimpleName() + " " + method.getName() + "(" + parameters + ")" + thrown;
    }

    private static void checkFields(Check check, Class<?> face) throws ReflectiveOperationException {
        for (Field field : face.getDeclaredFields()) {
            boolean none = field.getName().equals("NONE");
            check.same("private: " + field.getName(), Modifier.isPrivate(field.getModifiers()), !none);
        }
        Field none = face.getField("NONE");
        check.same("NONE", none.toString(), "public static final int GroveMerge.NONE");
        check.same("the value of NONE", none.getInt(null), -1);
    }

    private static void checkNames(Check check, Class<?> face) {
        Set<String> open = Arrays.stream(face.getDeclaredMethods())
                .filter(method -> Modifier.isPublic(method.getModifiers())).map(Method::getName)
                .collect(Collectors.toSet());
        for (Method method : face.getDeclaredMethods()) {
            if (Modifier.isPrivate(method.getModifiers())) {
                check.same("a name of its own: " + method.getName(), open.contains(method.getName()), false);
            }
        }
        for (Class<?> inside : face.getDeclaredClasses()) {
            for (Method method : inside.getDeclaredMethods()) {
                check.same("a name of its own: " + method, open.contains(method.getName()), false);
            }
        }
    }

    private static void checkNested(Check check, Class<?> face) {
        for (Class<?> inside : face.getDeclaredClasses()) {
            int modifiers = inside.getModifiers();
            check.same("static: " + inside, Modifier.isStatic(modifiers), true);
            check.same("not open: " + inside, Modifier.isPublic(modifiers) || Modifier.isProtected(modifiers), false);
        }
        check.same("some twelve classes at most", face.getDeclaredClasses().length <= 12, true);
    }
}
