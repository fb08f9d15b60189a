import java.lang.reflect.Constructor;
import java.lang.reflect.Field;
import java.lang.reflect.Method;
import java.lang.reflect.Modifier;
import java.util.TreeSet;

/** The public face is the document's and nothing more (rules 1 and 5 of LANGUAGE.md). */
public final class FaceTest {
    public static void main(String[] args) {
        Check check = new Check();
        check.due("modifiers", Modifier.toString(BitStreams.class.getModifiers()), "public final");
        TreeSet<String> face = new TreeSet<>();
        for (Method method : BitStreams.class.getDeclaredMethods()) {
            if (!Modifier.isPrivate(method.getModifiers()) && !method.isSynthetic()) {
                face.add(method.toString());
            }
        }
        for (Constructor<?> constructor : BitStreams.class.getDeclaredConstructors()) {
            face.add(constructor.toString());
        }
        TreeSet<String> due = new TreeSet<>();
        due.add("public BitStreams()");
        due.add("public boolean BitStreams.key(long,int)");
        due.add("public boolean BitStreams.start(long,int)");
        due.add("public boolean BitStreams.begin(int)");
        due.add("public long BitStreams.bits(int)");
        due.add("public boolean BitStreams.skip(int)");
        due.add("public long BitStreams.mix(long,int)");
        due.add("public int BitStreams.count(int)");
        check.due("the face", face.toString(), due.toString());
        fields(check, BitStreams.class);
        for (Class<?> inside : BitStreams.class.getDeclaredClasses()) {
            check.due(inside + " is static", Modifier.isStatic(inside.getModifiers()), true);
            fields(check, inside);
        }
        check.end();
    }

    private static void fields(Check check, Class<?> of) {
        for (Field field : of.getDeclaredFields()) {
            check.due(field + " is private", Modifier.isPrivate(field.getModifiers()), true);
            boolean loose = Modifier.isStatic(field.getModifiers()) && !Modifier.isFinal(field.getModifiers());
            check.due(field + " is static and not final", loose, false);
        }
    }
}
