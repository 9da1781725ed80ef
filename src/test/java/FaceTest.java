import java.lang.reflect.Constructor;
import java.lang.reflect.Field;
import java.lang.reflect.Method;
import java.lang.reflect.Modifier;
import java.util.TreeSet;

/** The class shows the face of the document and nothing else. */
public final class FaceTest {
    private static final String[] FACE = {
        "int write(int, long)", "int wipe()", "int fault()", "int lay()", "int sack(int, int)",
        "int may(int)", "int pour(int)", "int halve(int, int)", "int sell(int)", "int undo()", "int cost()",
        "int queue(int)", "int noQueue()", "int stops(int)",
        "long orders()", "int most(int)", "int halvings()", "int more(int)", "int lacks(int)",
        "int together(int)", "int grows(int)", "int twoMills(int)",
        "int year(int, int, int)", "int keep()", "int back()", "int count(int)",
    };

    private FaceTest() { }

    public static void main(String[] args) {
        Check.isTrue("public and final", Modifier.isPublic(MixedMill.class.getModifiers())
                && Modifier.isFinal(MixedMill.class.getModifiers()));
        methods();
        constructors();
        fields();
        classesInside();
        Check.end();
    }

    private static void methods() {
        TreeSet<String> face = new TreeSet<>(java.util.List.of(FACE));
        TreeSet<String> names = namesOfFace();
        for (Method m : MixedMill.class.getDeclaredMethods()) {
            if (Modifier.isPrivate(m.getModifiers())) {
                Check.isTrue(m + " bears no public name", !names.contains(m.getName()));
                continue;
            }
            StringBuilder row = new StringBuilder(m.getReturnType() + " " + m.getName() + "(");
            for (Class<?> p : m.getParameterTypes()) row.append(row.charAt(row.length() - 1) == '(' ? "" : ", ").append(p);
            Check.isTrue(m + " is of the face", face.remove(row.append(')').toString()));
            Check.isTrue(m + " is public, of the object", m.getModifiers() == Modifier.PUBLIC);
        }
        Check.isTrue("the face lacks " + face, face.isEmpty());
    }

    private static TreeSet<String> namesOfFace() {
        TreeSet<String> names = new TreeSet<>();
        for (String row : FACE) names.add(row.substring(row.indexOf(' ') + 1, row.indexOf('(')));
        return names;
    }

    private static void constructors() {
        Constructor<?>[] all = MixedMill.class.getDeclaredConstructors();
        Check.due("constructors", all.length, 1);
        Check.isTrue("the public one", all[0].getParameterCount() == 0 && all[0].getModifiers() == Modifier.PUBLIC);
    }

    private static void fields() {
        int constants = 0;
        for (Field f : MixedMill.class.getDeclaredFields()) {
            int m = f.getModifiers();
            if (Modifier.isStatic(m)) Check.isTrue(f + " is final", Modifier.isFinal(m));
            if (Modifier.isPrivate(m)) continue;
            constants++;
            Check.isTrue(f + " is a constant", m == (Modifier.PUBLIC | Modifier.STATIC | Modifier.FINAL));
        }
        Check.due("public constants", constants, 4);
    }

    private static void classesInside() {
        Class<?>[] inside = MixedMill.class.getDeclaredClasses();
        Check.isTrue("some twelve classes at most", inside.length <= 11);
        for (Class<?> c : inside) {
            Check.isTrue(c + " is static", Modifier.isStatic(c.getModifiers()));
            Check.isTrue(c + " is hidden", !Modifier.isPublic(c.getModifiers()) && !Modifier.isProtected(c.getModifiers()));
            for (Method m : c.getDeclaredMethods()) {
                Check.isTrue(m + " bears no public name", !namesOfFace().contains(m.getName()));
            }
            for (Field f : c.getDeclaredFields()) {
                Check.isTrue(f + " is no static state", !Modifier.isStatic(f.getModifiers()) || Modifier.isFinal(f.getModifiers()));
            }
        }
    }
}
