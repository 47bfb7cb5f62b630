import java.lang.reflect.Field;
import java.lang.reflect.Method;
import java.lang.reflect.Modifier;
import java.util.Arrays;
import java.util.TreeSet;

/** The class's face is the document's: its calls, its constants, and nothing else. */
public final class FaceTest {
    private static final String[] FACE = {
        "int point(int, int, int, int)", "int mark(int, int)", "int drop(int)", "int of(int, int)",
        "int at(int, int, int)", "int feed(int)", "int read()", "int product(int, int)", "int move(int, int)",
        "int trace(int, int)", "int takes(int, int)", "int told(int)", "int group(int)", "int classOf(int, int)",
        "int classAt(int)", "int motion(int, int)", "int sign(int, int)", "int has(int, int)", "int active(int)",
        "int see(int, boolean)", "int fits(int, int)", "long odds(int, int, int)", "long mean(int)",
        "int event(int, int)", "int after(int)", "int book(int, int)", "int looked()", "int judge(int, int)",
        "int image()", "int undo()", "int count(int)", "int tape(int, int, int)", "int item(int, int, long)",
        "long peek(int, int)", "int shift(int, int, int, int, int)"};

    private static final Due due = new Due("FaceTest");

    public static void main(String[] args) {
        methods();
        fields();
        due.end();
    }

    private static void methods() {
        due.promise("the public face");
        TreeSet<String> face = new TreeSet<>();
        TreeSet<String> names = new TreeSet<>();
        for (Method method : ShapeMoves.class.getDeclaredMethods()) {
            String parameters = Arrays.toString(method.getParameterTypes());
            if (Modifier.isPublic(method.getModifiers())) {
                face.add(method.getReturnType() + " " + method.getName() + "("
                        + parameters.substring(1, parameters.length() - 1) + ")");
                names.add(method.getName());
                due.is(method.getName() + " is an object's", Modifier.isStatic(method.getModifiers()) ? 1 : 0, 0);
            }
        }
        for (String method : FACE) {
            due.is("there is " + method, face.contains(method) ? 1 : 0, 1);
        }
        due.is("no other methods", face.size(), FACE.length);
        for (Method method : ShapeMoves.class.getDeclaredMethods()) {
            boolean isPrivate = Modifier.isPrivate(method.getModifiers());
            due.is("public or private: " + method, isPrivate != names.contains(method.getName()) ? 1 : 0, 1);
        }
        due.is("one constructor", ShapeMoves.class.getDeclaredConstructors().length, 1);
        due.is("without parameters", ShapeMoves.class.getConstructors()[0].getParameterCount(), 0);
        due.is("public and final", ShapeMoves.class.getModifiers(), Modifier.PUBLIC | Modifier.FINAL);
    }

    private static void fields() {
        due.promise("constants");
        int constants = 0;
        for (Field field : ShapeMoves.class.getDeclaredFields()) {
            boolean isPublic = Modifier.isPublic(field.getModifiers());
            constants += isPublic ? 1 : 0;
            due.is(field + " is a constant or private",
                    isPublic || Modifier.isPrivate(field.getModifiers()) ? 1 : 0, 1);
            due.is(field + " is final, if static", !Modifier.isStatic(field.getModifiers())
                    || Modifier.isFinal(field.getModifiers()) ? 1 : 0, 1);
        }
        due.is("five constants", constants, 5);
        for (Class<?> inside : ShapeMoves.class.getDeclaredClasses()) {
            due.is(inside + " is private and static", inside.getModifiers() & (Modifier.PRIVATE | Modifier.STATIC),
                    Modifier.PRIVATE | Modifier.STATIC);
        }
    }
}
