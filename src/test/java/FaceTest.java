import java.lang.reflect.Constructor;
import java.lang.reflect.Field;
import java.lang.reflect.Method;
import java.lang.reflect.Modifier;
import java.util.ArrayList;
import java.util.List;
import java.util.Set;
import java.util.TreeSet;

/** The document's face, and the rules 1, 5 and 11 of the language as far as the compiled class shows them. */
public final class FaceTest {
    private static final Check CHECK = new Check("FaceTest");

    private static final String[] FACE = {
        "void clear()",
        "int map(boolean, boolean)",
        "int put(int, long, long, long) throws ArithmeticException",
        "int drop(int, long)",
        "int union(int, int)",
        "int both(int, int)",
        "int less(int, int)",
        "int part(int, long, int)",
        "int kept(int, long, long)",
        "boolean has(int, long)",
        "long get(int, long) throws IllegalArgumentException, NoSuchElementException, ArithmeticException",
        "long key(int, int) throws IllegalArgumentException, IndexOutOfBoundsException",
        "int rank(int, long)",
        "long fold(int, long, long) throws IllegalArgumentException, ArithmeticException",
        "int row()",
        "int add(int, boolean, long)",
        "int join(int, int)",
        "int cut(int, int, int)",
        "int replace(int, int, long)",
        "int turned(int)",
        "long at(int, int) throws IllegalArgumentException, IndexOutOfBoundsException",
        "int find(int, int, long)",
        "int heap()",
        "int push(int, long)",
        "int meld(int, int)",
        "int pop(int)",
        "long least(int) throws IllegalArgumentException, NoSuchElementException",
        "int size(int)",
        "int same(int, int)",
        "boolean sound(int)",
        "int worked()",
        "int told(int)",
    };

    public static void main(String[] args) throws ReflectiveOperationException {
        faceIsTheDocuments();
        nothingElseIsSeen();
        noPrivateMethodBearsAPublicName();
        classesInsideKeepTheRules();
        CHECK.end();
    }

    private static String names(Class<?>[] types) {
        List<String> names = new ArrayList<>();
        for (Class<?> type : types) {
            names.add(type.getSimpleName());
        }
        return String.join(", ", names);
    }

    private static String told(Method method) {
        String thrown = names(method.getExceptionTypes());
        return method.getReturnType().getSimpleName() + " " + method.getName()
            + "(" + names(method.getParameterTypes()) + ")" + (thrown.isEmpty() ? "" : " throws " + thrown);
    }

    private static void faceIsTheDocuments() {
        Set<String> due = new TreeSet<>(List.of(FACE));
        Set<String> got = new TreeSet<>();
        for (Method method : OrderedMaps.class.getDeclaredMethods()) {
            if (Modifier.isPublic(method.getModifiers())) {
                got.add(told(method));
                CHECK.due(method.getName() + " is of the object", Modifier.isStatic(method.getModifiers()), false);
            }
        }
        CHECK.due("the face", got.toString(), due.toString());
        Constructor<?>[] constructors = OrderedMaps.class.getDeclaredConstructors();
        CHECK.due("constructors", constructors.length, 1);
        CHECK.due("parameters of it", constructors[0].getParameterCount(), 0);
        CHECK.due("it is public", Modifier.isPublic(constructors[0].getModifiers()), true);
        CHECK.due("the class", Modifier.toString(OrderedMaps.class.getModifiers()), "public final");
    }

    private static void nothingElseIsSeen() throws ReflectiveOperationException {
        for (Method method : OrderedMaps.class.getDeclaredMethods()) {
            boolean shut = Modifier.isPublic(method.getModifiers()) || Modifier.isPrivate(method.getModifiers());
            CHECK.due(method.getName() + " is public or private", shut, true);
        }
        for (Field field : OrderedMaps.class.getDeclaredFields()) {
            boolean isNone = field.getName().equals("NONE");
            CHECK.due(field.getName() + " is private", Modifier.isPrivate(field.getModifiers()), !isNone);
        }
        Field none = OrderedMaps.class.getDeclaredField("NONE");
        CHECK.due("NONE", Modifier.toString(none.getModifiers()) + " " + none.getType(), "public static final int");
    }

    private static void noPrivateMethodBearsAPublicName() {
        Set<String> open = new TreeSet<>();
        for (Method method : OrderedMaps.class.getDeclaredMethods()) {
            if (Modifier.isPublic(method.getModifiers())) {
                open.add(method.getName());
            }
        }
        noPrivateMethodBears(open, OrderedMaps.class);
        for (Class<?> inside : OrderedMaps.class.getDeclaredClasses()) {
            noPrivateMethodBears(open, inside);
        }
    }

    private static void noPrivateMethodBears(Set<String> open, Class<?> type) {
        for (Method method : type.getDeclaredMethods()) {
            boolean isShut = Modifier.isPrivate(method.getModifiers());
            String name = type.getSimpleName() + "." + method.getName();
            CHECK.due(name + " bears a public name", isShut && open.contains(method.getName()), false);
        }
    }

    private static void classesInsideKeepTheRules() {
        Class<?>[] insides = OrderedMaps.class.getDeclaredClasses();
        CHECK.due("at most twelve classes", insides.length + 1 <= 12, true);
        for (Class<?> inside : insides) {
            int marks = inside.getModifiers();
            CHECK.due(inside.getSimpleName() + " is static", Modifier.isStatic(marks), true);
            boolean isOpen = Modifier.isPublic(marks) || Modifier.isProtected(marks);
            CHECK.due(inside.getSimpleName() + " is open", isOpen, false);
            staticFieldsAreFinal(inside);
            hasFewFields(inside);
        }
        staticFieldsAreFinal(OrderedMaps.class);
        hasFewFields(OrderedMaps.class);
    }

    /** Constants do not count. */
    private static void hasFewFields(Class<?> type) {
        int fields = 0;
        for (Field field : type.getDeclaredFields()) {
            fields += Modifier.isStatic(field.getModifiers()) ? 0 : 1;
        }
        CHECK.due("at most twenty fields in " + type.getSimpleName(), fields <= 20, true);
    }

    private static void staticFieldsAreFinal(Class<?> type) {
        for (Field field : type.getDeclaredFields()) {
            int marks = field.getModifiers();
            boolean canChange = Modifier.isStatic(marks) && !Modifier.isFinal(marks);
            CHECK.due(field.getName() + " is static and can change", canChange, false);
        }
    }
}
