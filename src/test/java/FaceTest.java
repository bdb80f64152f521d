import java.lang.reflect.Constructor;
import java.lang.reflect.Executable;
import java.lang.reflect.Field;
import java.lang.reflect.Method;
import java.lang.reflect.Modifier;
import java.util.Arrays;
import java.util.TreeSet;

/** The class shows the document's face and no other member (LANGUAGE.md, rule 1). */
public final class FaceTest {
    private static final String ARGUMENT = " throws [IllegalArgumentException]";
    private static final String BOTH = " throws [IllegalArgumentException, IllegalStateException]";
    private static final String NOTHING = " throws []";

    private FaceTest() {
    }

    public static void main(String[] args) {
        TreeSet<String> want = new TreeSet<>(Arrays.asList(
            "int NONE", "new/0" + NOTHING, "duct/3" + BOTH, "need/2" + ARGUMENT, "size/2" + BOTH,
            "set/2" + ARGUMENT, "fan/2" + BOTH, "gives/0" + NOTHING, "flow/1" + ARGUMENT,
            "told/3" + ARGUMENT, "best/1" + ARGUMENT, "chosen/1" + ARGUMENT, "pressure/1" + ARGUMENT,
            "damper/1" + ARGUMENT, "least/1" + ARGUMENT, "worst/0" + NOTHING));
        Check.compare("the face", want.toString(), visible().toString());
        Check.compare("the class", "public final", Modifier.toString(DuctSizes.class.getModifiers()));
        Check.end();
    }

    private static TreeSet<String> visible() {
        TreeSet<String> seen = new TreeSet<>();
        for (Field field : DuctSizes.class.getDeclaredFields()) {
            if (!Modifier.isPrivate(field.getModifiers())) {
                seen.add(field.getType() + " " + field.getName());
            }
        }
        for (Constructor<?> made : DuctSizes.class.getDeclaredConstructors()) {
            seen.add(told("new", made));
        }
        for (Method method : DuctSizes.class.getDeclaredMethods()) {
            if (!Modifier.isPrivate(method.getModifiers())) {
                seen.add(told(method.getName(), method));
            }
        }
        return seen;
    }

    private static String told(String name, Executable call) {
        TreeSet<String> thrown = new TreeSet<>();
        for (Class<?> one : call.getExceptionTypes()) {
            thrown.add(one.getSimpleName());
        }
        return name + "/" + call.getParameterCount() + " throws " + thrown;
    }
}
