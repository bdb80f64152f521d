import java.lang.reflect.Constructor;
import java.lang.reflect.Executable;
import java.lang.reflect.Field;
import java.lang.reflect.Method;
import java.lang.reflect.Modifier;
import java.util.TreeSet;

/** The class shows the document's face and no other member (LANGUAGE.md, rule 1). */
public final class FaceTest {
    private static final String[] FACE = {
        "public static final int NONE",
        "public DuctSizes() throws []",
        "public int duct(int int int) throws [IllegalArgumentException, IllegalStateException]",
        "public int need(int int) throws [IllegalArgumentException]",
        "public int size(int int) throws [IllegalArgumentException, IllegalStateException]",
        "public int set(int int) throws [IllegalArgumentException]",
        "public int fan(int int) throws [IllegalArgumentException, IllegalStateException]",
        "public int gives() throws []",
        "public int flow(int) throws [IllegalArgumentException]",
        "public int told(int int int) throws [IllegalArgumentException]",
        "public int best(int) throws [IllegalArgumentException]",
        "public int chosen(int) throws [IllegalArgumentException]",
        "public int pressure(int) throws [IllegalArgumentException]",
        "public int damper(int) throws [IllegalArgumentException]",
        "public int least(int) throws [IllegalArgumentException]",
        "public int worst() throws []",
    };

    private FaceTest() {
    }

    public static void main(String[] args) {
        TreeSet<String> want = new TreeSet<>();
        for (String member : FACE) {
            want.add(member);
        }
        Check.sentence("The public face");
        Check.compare("the face", want.toString(), visible().toString());
        Check.compare("the class", "public final", Modifier.toString(DuctSizes.class.getModifiers()));
        Check.compare("what it extends", "Object", DuctSizes.class.getSuperclass().getSimpleName());
        Check.compare("what it implements", "0", "" + DuctSizes.class.getInterfaces().length);
        classesInside();
        Check.end();
    }

    private static TreeSet<String> visible() {
        TreeSet<String> seen = new TreeSet<>();
        for (Field field : DuctSizes.class.getDeclaredFields()) {
            if (!Modifier.isPrivate(field.getModifiers())) {
                seen.add(Modifier.toString(field.getModifiers()) + " " + field.getType() + " " + field.getName());
            }
        }
        for (Constructor<?> made : DuctSizes.class.getDeclaredConstructors()) {
            seen.add(told("DuctSizes", made));
        }
        TreeSet<String> hidden = new TreeSet<>();
        for (Method method : DuctSizes.class.getDeclaredMethods()) {
            if (Modifier.isPrivate(method.getModifiers())) {
                hidden.add(method.getName());
            } else {
                seen.add(told(method.getReturnType() + " " + method.getName(), method));
            }
        }
        for (String name : hidden) {
            for (String member : FACE) {
                Check.compare(name + " is private and public", "false", "" + member.contains(" " + name + "("));
            }
        }
        return seen;
    }

    private static void classesInside() {
        for (Class<?> inside : DuctSizes.class.getDeclaredClasses()) {
            int how = inside.getModifiers();
            boolean closed = !Modifier.isPublic(how) && !Modifier.isProtected(how);
            Check.compare(inside.getName() + " is static and not open", "true", "" + (closed && Modifier.isStatic(how)));
        }
    }

    private static String told(String name, Executable call) {
        TreeSet<String> thrown = new TreeSet<>();
        for (Class<?> one : call.getExceptionTypes()) {
            thrown.add(one.getSimpleName());
        }
        StringBuilder types = new StringBuilder();
        for (Class<?> one : call.getParameterTypes()) {
            types.append(types.length() == 0 ? "" : " ").append(one.getSimpleName());
        }
        return Modifier.toString(call.getModifiers()) + " " + name + "(" + types + ") throws " + thrown;
    }
}
