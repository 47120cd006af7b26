import java.lang.reflect.Constructor;
import java.lang.reflect.Field;
import java.lang.reflect.Method;
import java.lang.reflect.Modifier;
import java.util.Arrays;
import java.util.Set;
import java.util.TreeSet;

/** The public face, as it stands in the document, and nothing beside it. */
public final class FaceTest {
    private static final String[] FACE = {
        "public static final int NONE",
        "public static final long MISSING",
        "public ObsMessages()",
        "public void element(int, int, int, int, int) throws IllegalArgumentException",
        "public boolean drop(int, int)",
        "public void version(int) throws IllegalArgumentException",
        "public int append(int, int) throws IllegalArgumentException, IllegalStateException",
        "public void clear(int) throws IllegalArgumentException",
        "public int compile() throws IllegalArgumentException",
        "public int fault(int)",
        "public void put(int, int, long) throws IndexOutOfBoundsException",
        "public long get(int, int) throws IndexOutOfBoundsException",
        "public int fields(int) throws IndexOutOfBoundsException, IllegalArgumentException",
        "public int field(int, int, int)",
        "public long reference(int, int)",
        "public int find(int, int, int, int)",
        "public int write(int, boolean) throws IllegalArgumentException",
        "public int byteAt(int)",
        "public int feed(int, int)",
        "public int read() throws IllegalArgumentException",
        "public void point(int, long) throws IndexOutOfBoundsException, IllegalArgumentException",
        "public int pack(int) throws IllegalArgumentException, IllegalStateException",
        "public long packedAt(int)",
        "public int group(int)"};

    public static void main(String[] args) {
        Set<String> got = new TreeSet<>();
        Set<String> publicNames = new TreeSet<>();
        Class<?> type = ObsMessages.class;
        for (Field f : type.getDeclaredFields()) {
            if (!Modifier.isPrivate(f.getModifiers())) {
                got.add(f.toString().replace("ObsMessages.", ""));
            }
        }
        for (Constructor<?> c : type.getDeclaredConstructors()) {
            got.add(c.toString());
        }
        for (Method m : type.getDeclaredMethods()) {
            if (!Modifier.isPrivate(m.getModifiers())) {
                publicNames.add(m.getName());
                got.add(m.toString().replace("ObsMessages.", "").replace("java.lang.", "").replace(",", ", "));
            }
        }
        Checks.due("face", got.toString(), new TreeSet<>(Arrays.asList(FACE)).toString());
        Checks.due("the class", Modifier.toString(type.getModifiers()), "public final");
        Checks.due("NONE", ObsMessages.NONE, -1);
        Checks.due("MISSING", ObsMessages.MISSING, -9000000000000000000L);
        inside(type, publicNames);
        Checks.end("FaceTest");
    }

    /** Classes inside are static and not public, and no method that is not of the face bears a name of it. */
    private static void inside(Class<?> type, Set<String> publicNames) {
        Checks.due("at most twelve classes", type.getDeclaredClasses().length < 12, true);
        for (Method m : type.getDeclaredMethods()) {
            Checks.due(m + " bears a name of the face", Modifier.isPrivate(m.getModifiers())
                    && publicNames.contains(m.getName()), false);
        }
        for (Class<?> c : type.getDeclaredClasses()) {
            Checks.due(c + " is static", Modifier.isStatic(c.getModifiers()), true);
            Checks.due(c + " is public", Modifier.isPublic(c.getModifiers()), false);
            int own = 0;
            for (Field f : c.getDeclaredFields()) {
                own += Modifier.isStatic(f.getModifiers()) ? 0 : 1;
                Checks.due(f + " is static and changes", Modifier.isStatic(f.getModifiers())
                        && !Modifier.isFinal(f.getModifiers()), false);
            }
            Checks.due(c + " has some twenty fields", own <= 20, true);
            for (Method m : c.getDeclaredMethods()) {
                Checks.due(m + " bears a name of the face", publicNames.contains(m.getName()), false);
                Checks.due(m + " takes at most seven", m.getParameterCount() <= 7, true);
            }
        }
    }
}
