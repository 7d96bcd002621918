import java.lang.reflect.Constructor;
import java.lang.reflect.Field;
import java.lang.reflect.Method;
import java.lang.reflect.Modifier;
import java.util.Arrays;
import java.util.Set;
import java.util.TreeSet;

/** The public face: all of the document's, and nothing else. */
public final class FaceTest {
    private static final String[] FACE = {
        "boolean type(long, int)",
        "int node() ArithmeticException IllegalStateException",
        "boolean label(int, int, boolean) ArithmeticException IllegalStateException",
        "boolean property(int, int, int, int, long) ArithmeticException IllegalStateException",
        "int link(int, int, int) ArithmeticException IllegalStateException",
        "void take(int, int) ArithmeticException IllegalStateException",
        "int error()",
        "int done() ArithmeticException IllegalStateException",
        "int undo()",
        "boolean begin()",
        "int commit() IllegalStateException",
        "boolean rollback()",
        "int checkpoint() IllegalStateException",
        "boolean cut(int)",
        "int recover()",
        "int thing(int, int, int)",
        "int chain(int, boolean, int)",
        "boolean has(int, int)",
        "long value(int, int, int, int) NoSuchElementException",
        "int state(int)",
    };

    private static final Due due = new Due("FaceTest");

    public static void main(String[] args) {
        publicFace();
        constants();
        nothingElseShows();
        due.end();
    }

    private static String tell(Method method) {
        StringBuilder told = new StringBuilder();
        told.append(method.getReturnType()).append(' ').append(method.getName()).append('(');
        for (int i = 0; i < method.getParameterCount(); i++) {
            told.append(i == 0 ? "" : ", ").append(method.getParameterTypes()[i]);
        }
        told.append(')');
        Arrays.stream(method.getExceptionTypes()).map(Class::getSimpleName).sorted()
            .forEach(name -> told.append(' ').append(name));
        return told.toString();
    }

    private static void publicFace() {
        due.part("the public face");
        Set<String> methods = new TreeSet<>();
        for (Method method : GraphKeep.class.getDeclaredMethods()) {
            if (Modifier.isPublic(method.getModifiers())) {
                methods.add(tell(method));
            }
        }
        due.is("methods", methods, new TreeSet<>(Arrays.asList(FACE)));
        due.is("class", Modifier.toString(GraphKeep.class.getModifiers()), "public final");
        Constructor<?>[] constructors = GraphKeep.class.getDeclaredConstructors();
        due.is("constructors", constructors.length, 1);
        due.is("constructor", constructors[0].toString(), "public GraphKeep()");
    }

    private static void nothingElseShows() {
        due.part("rules 1 and 5");
        Set<String> names = new TreeSet<>();
        for (Method method : GraphKeep.class.getDeclaredMethods()) {
            boolean open = Modifier.isPublic(method.getModifiers());
            due.is(method + " is public or private", open || Modifier.isPrivate(method.getModifiers()), true);
            due.is(method.getName() + " has a name of its own", names.add(method.getName()), true);
        }
        for (Field field : GraphKeep.class.getDeclaredFields()) {
            boolean isNone = field.getName().equals("NONE");
            due.is(field + " is private", Modifier.isPrivate(field.getModifiers()), !isNone);
            due.is(field + " is no static state",
                !Modifier.isStatic(field.getModifiers()) || Modifier.isFinal(field.getModifiers()), true);
        }
    }

    private static void constants() {
        due.part("the public face: constants");
        Field[] open = GraphKeep.class.getFields();
        due.is("how many", open.length, 1);
        due.is("the one", open[0].toString(), "public static final int GraphKeep.NONE");
        due.is("NONE", GraphKeep.NONE, -1);
    }
}
