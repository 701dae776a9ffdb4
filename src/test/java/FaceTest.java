import java.lang.reflect.Constructor;
import java.lang.reflect.Field;
import java.lang.reflect.Method;
import java.lang.reflect.Modifier;
import java.util.Arrays;
import java.util.Set;
import java.util.TreeSet;
import java.util.stream.Collectors;

/** The public face, as the document and rule 1 of LANGUAGE.md want it. */
public final class FaceTest {
    private static final Check check = new Check("FaceTest");
    private static final String[] FACE = {
        "public static final int NONE",
        "public DoorstepRounds()",
        "public int addDoorstep(int) throws IllegalArgumentException, IllegalStateException",
        "public int removeDoorstep(int) throws IndexOutOfBoundsException, IllegalStateException",
        "public int setPints(int, int) throws IndexOutOfBoundsException, IllegalArgumentException",
        "public int come(int) throws IndexOutOfBoundsException, IllegalStateException",
        "public int leave(int) throws IndexOutOfBoundsException, IllegalStateException",
        "public int doorsteps()",
        "public int pints(int) throws IndexOutOfBoundsException",
        "public int owner(int) throws IndexOutOfBoundsException",
        "public boolean isAtWork(int) throws IndexOutOfBoundsException",
        "public int size(int) throws IndexOutOfBoundsException",
        "public int load(int) throws IndexOutOfBoundsException",
        "public int plan() throws IllegalStateException",
        "public int handOver() throws IllegalStateException",
        "public int callOff() throws IllegalStateException",
        "public int handover()",
        "public int planned(int) throws IndexOutOfBoundsException",
        "public int changed()",
        "public int deliver()",
        "public int delivered()",
        "public int misses()",
        "public int ifPlanned(int) throws IndexOutOfBoundsException",
        "public int reason(int) throws IndexOutOfBoundsException",
        "public int changesToCome()",
        "public int changesIf(int) throws IndexOutOfBoundsException",
        "public double unevenness()",
        "public int append(int) throws IllegalArgumentException, IllegalStateException",
        "public int clearText()",
        "public int firstError()",
        "public int run() throws IllegalArgumentException",
        "public int undo() throws IllegalStateException",
        "public int savedStates()",
        "public long digest()",
    };

    public static void main(String[] args) {
        Class<?> face = DoorstepRounds.class;
        Set<String> got = new TreeSet<>();
        Set<String> publicNames = new TreeSet<>();
        for (Method m : face.getDeclaredMethods()) {
            if (!Modifier.isPrivate(m.getModifiers())) {
                got.add(tell(m.getModifiers(), m.getReturnType().getSimpleName() + " " + m.getName(),
                    m.getParameterTypes(), m.getExceptionTypes()));
                publicNames.add(m.getName());
            }
        }
        for (Constructor<?> c : face.getDeclaredConstructors()) {
            got.add(tell(c.getModifiers(), c.getName(), c.getParameterTypes(), c.getExceptionTypes()));
        }
        for (Field f : face.getDeclaredFields()) {
            if (!Modifier.isPrivate(f.getModifiers())) {
                got.add(Modifier.toString(f.getModifiers()) + " " + f.getType().getSimpleName() + " " + f.getName());
            }
        }
        check.compare("the face", got.toString(), new TreeSet<>(Arrays.asList(FACE)).toString());
        check.compare("the class", Modifier.toString(face.getModifiers()), "public final");
        classesInside(face, publicNames);
        check.end();
    }

    private static void classesInside(Class<?> face, Set<String> publicNames) {
        check.dueTrue("at most twelve classes", face.getDeclaredClasses().length < 12);
        for (Class<?> inside : face.getDeclaredClasses()) {
            int modifiers = inside.getModifiers();
            check.dueTrue(inside + " is static", Modifier.isStatic(modifiers));
            check.dueTrue(inside + " is hidden", !Modifier.isPublic(modifiers) && !Modifier.isProtected(modifiers));
            for (Method m : inside.getDeclaredMethods()) {
                check.dueTrue(m + " bears no public name", !publicNames.contains(m.getName()));
                check.dueTrue(m + " takes at most seven", m.getParameterCount() <= 7);
            }
        }
        for (Method m : face.getDeclaredMethods()) {
            boolean ofTheFace = Modifier.isPublic(m.getModifiers());
            check.dueTrue(m + " bears no public name", ofTheFace || !publicNames.contains(m.getName()));
            check.dueTrue(m + " takes at most seven", m.getParameterCount() <= 7);
        }
    }

    private static String tell(int modifiers, String name, Class<?>[] takes, Class<?>[] throwing) {
        String all = Modifier.toString(modifiers) + " " + name + "(" + names(takes) + ")";
        return throwing.length == 0 ? all : all + " throws " + names(throwing);
    }

    private static String names(Class<?>[] classes) {
        return Arrays.stream(classes).map(Class::getSimpleName).collect(Collectors.joining(", "));
    }
}
