import java.lang.reflect.Constructor;
import java.lang.reflect.Field;
import java.lang.reflect.Member;
import java.lang.reflect.Method;
import java.lang.reflect.Modifier;
import java.util.Arrays;
import java.util.Set;
import java.util.TreeSet;

/** The public face is the document's, with its constant, and nothing else can be seen from outside. */
public final class FaceTest {
    private static final Runs RUNS = new Runs("FaceTest");

    private static final String[] FACE = {
        "boolean type(int) throws IllegalArgumentException",
        "int submit() throws IllegalStateException",
        "int enable() throws IllegalStateException",
        "void cancel() throws IllegalStateException",
        "int minutes(int) throws IllegalArgumentException",
        "void lasts(int,int) throws IndexOutOfBoundsException,IllegalArgumentException",
        "void draws(int,int) throws IndexOutOfBoundsException,IllegalArgumentException",
        "void curve(int,int) throws IndexOutOfBoundsException,IllegalArgumentException",
        "void gain(int) throws IllegalArgumentException",
        "void home(int,int) throws IllegalArgumentException,IllegalStateException",
        "void fill(int,int) throws IllegalArgumentException,IllegalStateException",
        "int now()",
        "int mode()",
        "int level(int) throws IndexOutOfBoundsException",
        "int reserve()",
        "int activities()",
        "int activity(int,int) throws IndexOutOfBoundsException",
        "int lowest()",
        "boolean could(int) throws IndexOutOfBoundsException",
    };

    public static void main(String[] args) {
        RUNS.due("the class", Modifier.toString(RoverMinutes.class.getModifiers()), "public final");
        RUNS.due("NONE", RoverMinutes.NONE, -1);
        RUNS.due("the methods", methods(), new TreeSet<>(Arrays.asList(FACE)));
        RUNS.due("the fields", fields(), "[public static final int RoverMinutes.NONE]");
        Constructor<?>[] constructors = RoverMinutes.class.getDeclaredConstructors();
        RUNS.due("the constructors", Arrays.toString(constructors), "[public RoverMinutes()]");
        for (Class<?> inside : RoverMinutes.class.getDeclaredClasses()) {
            RUNS.due(inside + " is static and not public", inside.isEnum()
                || Modifier.isStatic(inside.getModifiers()) && !Modifier.isPublic(inside.getModifiers()), true);
        }
        RUNS.end();
    }

    private static boolean isSeen(Member member) {
        return !Modifier.isPrivate(member.getModifiers()) && !member.isSynthetic();
    }

    private static Set<String> methods() {
        Set<String> texts = new TreeSet<>();
        for (Method method : RoverMinutes.class.getDeclaredMethods()) {
            if (isSeen(method)) {
                texts.add(method.toString().replace("java.lang.", "").replace("RoverMinutes.", "").replace("public ", ""));
            }
        }
        return texts;
    }

    private static Set<String> fields() {
        Set<String> texts = new TreeSet<>();
        for (Field field : RoverMinutes.class.getDeclaredFields()) {
            if (isSeen(field)) {
                texts.add(field.toString());
            }
        }
        return texts;
    }
}
