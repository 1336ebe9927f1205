import java.lang.reflect.Constructor;
import java.lang.reflect.Field;
import java.lang.reflect.Method;
import java.lang.reflect.Modifier;
import java.util.Arrays;
import java.util.TreeSet;

/** The public face is the document's, and LANGUAGE.md's rule 1 holds. */
public final class FaceTest {
    private static final String INDEX = "IndexOutOfBoundsException";
    private static final String ARGUMENT = "IllegalArgumentException";
    private static final String STATE = "IllegalStateException";

    public static void main(String[] args) {
        Check.due("NONE", -99, Beamrow.NONE);
        Check.due("BOX", 0, Beamrow.BOX);
        Check.due("TENT", 1, Beamrow.TENT);
        Check.due("ENDS", 2, Beamrow.ENDS);
        methodsAreTheDocuments();
        nothingElseIsSeen();
        privateMethodsHaveNamesOfTheirOwn();
        Check.end();
    }

    private static void methodsAreTheDocuments() {
        dueMethod("int element(int, int, int)", ARGUMENT, STATE);
        dueMethod("boolean alive(int, boolean)", INDEX);
        dueMethod("int source(int, int, int)", INDEX, ARGUMENT, STATE);
        dueMethod("int silence()");
        dueMethod("int noise(int, int)", ARGUMENT);
        dueMethod("int hear(int)", ARGUMENT);
        dueMethod("int window(int)", ARGUMENT);
        dueMethod("int calibrate(int)", INDEX, STATE);
        dueMethod("int sample(int, int)", INDEX);
        dueMethod("long sum(int, int)", INDEX);
        dueMethod("long power(int)", INDEX);
        dueMethod("long powerAnew(int)", INDEX);
        dueMethod("int peaks(int)", ARGUMENT);
        dueMethod("int found(int)", INDEX);
        dueMethod("int calibrated(int, boolean)", INDEX);
        dueMethod("int tick()");
    }

    private static void dueMethod(String face, String... thrown) {
        for (Method method : Beamrow.class.getMethods()) {
            if (face(method).equals(face)) {
                String[] kinds = Arrays.stream(method.getExceptionTypes()).map(Class::getSimpleName)
                        .toArray(String[]::new);
                Check.due(face + " throws " + Arrays.toString(kinds), true, Arrays.equals(thrown, kinds));
                return;
            }
        }
        Check.due(face + " is there", true, false);
    }

    private static String face(Method method) {
        StringBuilder face = new StringBuilder();
        face.append(method.getReturnType().getSimpleName()).append(' ').append(method.getName()).append('(');
        String between = "";
        for (Class<?> one : method.getParameterTypes()) {
            face.append(between).append(one.getSimpleName());
            between = ", ";
        }
        return face.append(')').toString();
    }

    private static void nothingElseIsSeen() {
        int methods = 0;
        for (Method method : Beamrow.class.getDeclaredMethods()) {
            boolean isPublic = Modifier.isPublic(method.getModifiers());
            methods += isPublic ? 1 : 0;
            Check.due(method + " is public or private", true,
                    isPublic || Modifier.isPrivate(method.getModifiers()));
        }
        Check.due("public methods", 16, methods);
        TreeSet<String> constants = new TreeSet<>();
        for (Field field : Beamrow.class.getDeclaredFields()) {
            if (Modifier.isPublic(field.getModifiers())) {
                constants.add(field.getName());
            }
            Check.due(field + " is public or private", true,
                    Modifier.isPublic(field.getModifiers()) || Modifier.isPrivate(field.getModifiers()));
            Check.due(field + " is not static unless final", true,
                    !Modifier.isStatic(field.getModifiers()) || Modifier.isFinal(field.getModifiers()));
        }
        Check.due("public constants " + constants, true, constants.toString().equals("[BOX, ENDS, NONE, TENT]"));
        Constructor<?>[] constructors = Beamrow.class.getDeclaredConstructors();
        Check.due("constructors", 1, constructors.length);
        Check.due("parameters of the constructor", 0, constructors[0].getParameterCount());
        Check.due("the class is public and final", Modifier.PUBLIC | Modifier.FINAL, Beamrow.class.getModifiers());
        for (Class<?> inside : Beamrow.class.getDeclaredClasses()) {
            Check.due(inside + " is static", true, Modifier.isStatic(inside.getModifiers()));
            Check.due(inside + " is not public", false, Modifier.isPublic(inside.getModifiers()));
        }
    }

    private static void privateMethodsHaveNamesOfTheirOwn() {
        TreeSet<String> ofTheFace = new TreeSet<>();
        for (Method method : Beamrow.class.getDeclaredMethods()) {
            if (Modifier.isPublic(method.getModifiers())) {
                ofTheFace.add(method.getName());
            }
        }
        Check.due("names of the face", 16, ofTheFace.size());
        for (Method method : Beamrow.class.getDeclaredMethods()) {
            Check.due(method + " has a name of the face", false,
                    Modifier.isPrivate(method.getModifiers()) && ofTheFace.contains(method.getName()));
        }
        for (Class<?> inside : Beamrow.class.getDeclaredClasses()) {
            for (Method method : inside.getDeclaredMethods()) {
                Check.due(method + " has a name of the face", false, ofTheFace.contains(method.getName()));
            }
        }
    }
}
