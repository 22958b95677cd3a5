import java.lang.reflect.Constructor;
import java.lang.reflect.Field;
import java.lang.reflect.Method;
import java.lang.reflect.Modifier;
import java.util.Arrays;
import java.util.TreeSet;

/** The public face is the document's, and nothing else of the class can be seen. */
public final class FaceTest {
    private static final String[] METHODS = {
        "int feed(int,int,int,int,int)", "int end(int)", "int assemble()", "int fault(int)",
        "int name(int,int)", "void restart()", "int peek(int)", "boolean poke(int,int)", "int key(int)",
        "boolean drum(int,int)", "int stop(int,boolean)", "int run(int)", "int back(int)",
        "int register(int)", "int device(int)", "int about(int)", "int codes(int)", "int ring(int,int)",
        "int strip(int)", "int text(int)", "int out(int)"};

    public static void main(String[] args) {
        Check.due("NONE", BelfryBox.NONE, -1);
        TreeSet<String> face = new TreeSet<>();
        TreeSet<String> faceNames = new TreeSet<>();
        for (Method m : BelfryBox.class.getDeclaredMethods()) {
            if (!Modifier.isPrivate(m.getModifiers())) {
                face.add(told(m));
                faceNames.add(m.getName());
            }
        }
        Check.due("the methods", face.toString(), new TreeSet<>(Arrays.asList(METHODS)).toString());
        for (Field f : BelfryBox.class.getDeclaredFields()) {
            Check.due("private field " + f.getName(), Modifier.isPrivate(f.getModifiers()),
                    !f.getName().equals("NONE"));
        }
        Constructor<?>[] constructors = BelfryBox.class.getDeclaredConstructors();
        Check.due("constructors", constructors.length, 1);
        Check.due("a public class", Modifier.isPublic(BelfryBox.class.getModifiers()), true);
        Check.due("a final class", Modifier.isFinal(BelfryBox.class.getModifiers()), true);
        for (Class<?> inside : BelfryBox.class.getDeclaredClasses()) {
            lookInside(inside, faceNames);
        }
        Check.end();
    }

    private static void lookInside(Class<?> inside, TreeSet<String> faceNames) {
        Check.due("static " + inside.getName(), Modifier.isStatic(inside.getModifiers()), true);
        for (Method m : inside.getDeclaredMethods()) {
            Check.due("a face's name inside: " + m.getName(), faceNames.contains(m.getName()), false);
        }
        int fields = 0;
        for (Field f : inside.getDeclaredFields()) {
            if (Modifier.isStatic(f.getModifiers())) {
                Check.due("final " + f.getName(), Modifier.isFinal(f.getModifiers()), true);
            } else {
                fields++;
            }
        }
        Check.due("at most 20 fields in " + inside.getName(), fields <= 20, true);
    }

    private static String told(Method m) {
        StringBuilder all = new StringBuilder();
        all.append(m.getReturnType().getName()).append(' ').append(m.getName()).append('(');
        String comma = "";
        for (Class<?> type : m.getParameterTypes()) {
            all.append(comma).append(type.getName());
            comma = ",";
        }
        return all.append(')').toString();
    }
}
