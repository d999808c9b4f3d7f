import java.lang.reflect.Constructor;
import java.lang.reflect.Field;
import java.lang.reflect.Member;
import java.lang.reflect.Method;
import java.lang.reflect.Modifier;
import java.util.Map;
import java.util.TreeMap;
import java.util.TreeSet;

/** The public face: just what the document has, and nothing else that is not private. */
public final class FaceTest {
    private static final String[] METHODS = {
        "public boolean PauseLog.type(char)",
        "public int PauseLog.drop(int) throws java.lang.IllegalArgumentException",
        "public int PauseLog.write(int,int,int,int,int,int,int) throws java.lang.IllegalArgumentException",
        "public int PauseLog.line()",
        "public int PauseLog.finish()",
        "public int PauseLog.event(int,int) throws java.lang.IndexOutOfBoundsException",
        "public int PauseLog.shown(int,int,int) throws java.lang.IndexOutOfBoundsException",
        "public int PauseLog.diagnostic(int,int) throws java.lang.IndexOutOfBoundsException",
        "public double PauseLog.throughput() throws java.lang.IllegalStateException",
        "public double PauseLog.rate(int) throws java.lang.IllegalArgumentException,java.lang.IllegalStateException",
        "public int PauseLog.percentile(int) throws java.lang.IllegalArgumentException,java.lang.IllegalStateException",
        "public int PauseLog.bucket(int) throws java.lang.IndexOutOfBoundsException",
        "public long PauseLog.ofCause(int) throws java.lang.IndexOutOfBoundsException",
        "public int PauseLog.count(int) throws java.lang.IndexOutOfBoundsException",
    };

    public static void main(String[] args) throws IllegalAccessException {
        methods();
        constants();
        classesInside();
        Constructor<?>[] constructors = PauseLog.class.getDeclaredConstructors();
        Check.same("constructors", constructors.length, 1);
        Check.same("constructor", constructors[0].toString(), "public PauseLog()");
        Check.same("class", Modifier.toString(PauseLog.class.getModifiers()), "public final");
        Check.end();
    }

    private static void methods() {
        TreeSet<String> got = new TreeSet<>();
        TreeSet<String> publicNames = new TreeSet<>();
        TreeSet<String> privateNames = new TreeSet<>();
        for (Method method : PauseLog.class.getDeclaredMethods()) {
            if (isPrivate(method)) {
                privateNames.add(method.getName());
            } else {
                got.add(method.toString());
                publicNames.add(method.getName());
            }
        }
        Check.same("methods", got, new TreeSet<>(java.util.List.of(METHODS)));
        privateNames.retainAll(publicNames);
        Check.same("private methods with a public name", privateNames, new TreeSet<String>());
    }

    private static void constants() throws IllegalAccessException {
        Map<String, Object> got = new TreeMap<>();
        for (Field field : PauseLog.class.getDeclaredFields()) {
            if (!isPrivate(field)) {
                Check.same("modifiers of " + field.getName(), Modifier.toString(field.getModifiers()), "public static final");
                got.put(field.getName(), field.get(null));
            }
        }
        Check.same("constants", got, new TreeMap<>(Map.of("NONE", -1, "SYNTAX", 1, "BACK", 2, "STALE", 3, "BUSY", 4,
            "UNKNOWN", 5, "WRONG", 6, "FULL", 7, "TRUNCATED", 8)));
    }

    // LANGUAGE.md, rule 1: "the classes inside it, which are private or package-visible and static"
    private static void classesInside() {
        for (Class<?> inside : PauseLog.class.getDeclaredClasses()) {
            int modifiers = inside.getModifiers();
            Check.same(inside + " is hidden", Modifier.isPublic(modifiers) || Modifier.isProtected(modifiers), false);
            Check.same(inside + " is static", Modifier.isStatic(modifiers), true);
        }
    }

    private static boolean isPrivate(Member member) {
        return Modifier.isPrivate(member.getModifiers());
    }
}
