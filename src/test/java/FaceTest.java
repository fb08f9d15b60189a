import java.lang.reflect.Constructor;
import java.lang.reflect.Field;
import java.lang.reflect.Method;
import java.lang.reflect.Modifier;
import java.util.Set;
import java.util.TreeSet;

/** The public face is the document's and nothing more (what reflection shows of rules 1 and 5 of LANGUAGE.md). */
public final class FaceTest {
    private static final Set<String> NAMES = Set.of("key", "start", "begin", "bits", "skip", "mix", "count");
    private static final Set<Class<?>> CONSTANTS = Set.of(int.class, long.class, boolean.class, char.class,
            String.class, int[].class, long[].class, char[].class, byte[].class);

    private final Check check = new Check();

    public static void main(String[] args) {
        FaceTest test = new FaceTest();
        test.face();
        test.fields(BitStreams.class);
        test.privateMethods(BitStreams.class);
        for (Class<?> inside : BitStreams.class.getDeclaredClasses()) {
            test.classInside(inside);
        }
        test.check.end();
    }

    private void face() {
        check.due("modifiers", Modifier.toString(BitStreams.class.getModifiers()), "public final");
        TreeSet<String> face = new TreeSet<>();
        for (Method method : BitStreams.class.getDeclaredMethods()) {
            if (!Modifier.isPrivate(method.getModifiers()) && !method.isSynthetic()) {
                face.add(method.toString());
            }
        }
        for (Constructor<?> constructor : BitStreams.class.getDeclaredConstructors()) {
            face.add(constructor.toString());
        }
        TreeSet<String> due = new TreeSet<>();
        due.add("public BitStreams()");
        due.add("public boolean BitStreams.key(long,int)");
        due.add("public boolean BitStreams.start(long,int)");
        due.add("public boolean BitStreams.begin(int)");
        due.add("public long BitStreams.bits(int)");
        due.add("public boolean BitStreams.skip(int)");
        due.add("public long BitStreams.mix(long,int)");
        due.add("public int BitStreams.count(int)");
        check.due("the face", face.toString(), due.toString());
    }

    private void classInside(Class<?> inside) {
        int modifiers = inside.getModifiers();
        check.due(inside + " is static", Modifier.isStatic(modifiers), true);
        boolean open = Modifier.isPublic(modifiers) || Modifier.isProtected(modifiers);
        check.due(inside + " is public or protected", open, false);
        fields(inside);
        privateMethods(inside);
    }

    private void privateMethods(Class<?> of) {
        for (Method method : of.getDeclaredMethods()) {
            boolean alike = Modifier.isPrivate(method.getModifiers()) && NAMES.contains(method.getName());
            check.due(method + " is private with a name of the face", alike, false);
        }
    }

    private void fields(Class<?> of) {
        for (Field field : of.getDeclaredFields()) {
            check.due(field + " is private", Modifier.isPrivate(field.getModifiers()), true);
            if (Modifier.isStatic(field.getModifiers())) {
                check.due(field + " is final", Modifier.isFinal(field.getModifiers()), true);
                check.due(field + " is a constant", CONSTANTS.contains(field.getType()), true);
            }
        }
    }
}
