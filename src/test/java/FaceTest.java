import java.lang.reflect.Constructor;
import java.lang.reflect.Field;
import java.lang.reflect.Method;
import java.lang.reflect.Modifier;
import java.util.Arrays;
import java.util.TreeSet;

/** The public face: just the constants, the constructor and the methods of the document. */
public final class FaceTest {
    private static final String[] FACE = {
        "public static final int BADVER = -1",
        "public static final int NOHANDLE = -2",
        "public static final int NOROOM = -3",
        "public static final int MIXED = -4",
        "public TreapVersions(int,int,int)",
        "public int put(int,int,int)",
        "public int remove(int,int)",
        "public int below(int,int)",
        "public int join(int,int)",
        "public boolean drop(int)",
        "public boolean isLive(int)",
        "public int get(int,int) throws java.util.NoSuchElementException",
        "public boolean contains(int,int)",
        "public int size(int)",
        "public int floor(int,int) throws java.util.NoSuchElementException",
        "public int keyAt(int,int) throws java.util.NoSuchElementException,java.lang.IndexOutOfBoundsException",
        "public long sum(int,int,int)",
        "public int depth(int,int) throws java.util.NoSuchElementException",
        "public int shared(int,int)",
        "public int nodes()",
        "public int used()",
        "public int sweeps()",
    };

    public static void main(String[] args) throws IllegalAccessException {
        Checks checks = new Checks();
        TreeSet<String> due = new TreeSet<>(Arrays.asList(FACE));
        TreeSet<String> found = membersThatAreSeen();
        for (String member : due) {
            checks.due("the face has '" + member + "'", found.contains(member), true);
        }
        for (String member : found) {
            checks.due("the document has '" + member + "'", due.contains(member), true);
        }
        int modifiers = TreapVersions.class.getModifiers();
        checks.due("the class is public and final", Modifier.isPublic(modifiers) && Modifier.isFinal(modifiers), true);
        privateNamesDiffer(checks);
        checks.end();
    }

    private static TreeSet<String> membersThatAreSeen() throws IllegalAccessException {
        TreeSet<String> found = new TreeSet<>();
        for (Field field : TreapVersions.class.getDeclaredFields()) {
            if (!Modifier.isPrivate(field.getModifiers())) {
                String value = Modifier.isStatic(field.getModifiers()) ? " = " + field.get(null) : "";
                found.add(withoutClass(field.toString()) + value);
            }
        }
        for (Constructor<?> constructor : TreapVersions.class.getDeclaredConstructors()) {
            if (!Modifier.isPrivate(constructor.getModifiers())) {
                found.add(constructor.toString());
            }
        }
        for (Method method : TreapVersions.class.getDeclaredMethods()) {
            if (!Modifier.isPrivate(method.getModifiers())) {
                found.add(withoutClass(method.toString()));
            }
        }
        return found;
    }

    private static String withoutClass(String member) {
        return member.replace("TreapVersions.", "");
    }

    private static void privateNamesDiffer(Checks checks) {
        TreeSet<String> names = new TreeSet<>();
        for (Method method : TreapVersions.class.getMethods()) {
            names.add(method.getName());
        }
        for (Method method : TreapVersions.class.getDeclaredMethods()) {
            boolean clash = Modifier.isPrivate(method.getModifiers()) && names.contains(method.getName());
            checks.due("private " + method.getName() + " has a public one's name", clash, false);
        }
    }
}
