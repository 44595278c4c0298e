import java.lang.reflect.Constructor;
import java.lang.reflect.Field;
import java.lang.reflect.Method;
import java.lang.reflect.Modifier;
import java.util.TreeSet;

/** The class has the document's public face, and nothing else of it is seen from outside. */
final class FaceTest {
    private static final String[] FACE = {
        "public int LinkPair.about(int,int) throws java.lang.IllegalArgumentException",
        "public int LinkPair.bit(int,int,int) throws java.lang.IllegalArgumentException",
        "public int LinkPair.bits(int,long,int,boolean) throws java.lang.IllegalArgumentException,"
            + "java.lang.IllegalStateException",
        "public int LinkPair.check(long,int) throws java.lang.IllegalArgumentException",
        "public int LinkPair.drop(int,int) throws java.lang.IllegalArgumentException",
        "public int LinkPair.flip(int,int,int) throws java.lang.IllegalArgumentException",
        "public int LinkPair.put(int,int,int) throws java.lang.IllegalArgumentException,"
            + "java.lang.IllegalStateException",
        "public int LinkPair.send(int) throws java.lang.IllegalArgumentException,"
            + "java.lang.IllegalStateException",
        "public int LinkPair.take(int) throws java.lang.IllegalArgumentException,"
            + "java.lang.IllegalStateException",
        "public int LinkPair.taken(int,int,int) throws java.lang.IllegalArgumentException",
        "public static final int LinkPair.NONE",
        "public LinkPair()",
        "public void LinkPair.restart(int) throws java.lang.IllegalArgumentException",
    };

    public static void main(String[] args) {
        TreeSet<String> seen = new TreeSet<>();
        for (Method m : LinkPair.class.getDeclaredMethods()) {
            if (!Modifier.isPrivate(m.getModifiers())) {
                seen.add(m.toString());
            }
        }
        for (Field f : LinkPair.class.getDeclaredFields()) {
            if (!Modifier.isPrivate(f.getModifiers())) {
                seen.add(f.toString());
            }
        }
        for (Constructor<?> c : LinkPair.class.getDeclaredConstructors()) {
            seen.add(c.toString());
        }
        Due.same("the face", String.join("\n", seen), String.join("\n", new TreeSet<>(java.util.List.of(FACE))));
        Due.same("the class", Modifier.toString(LinkPair.class.getModifiers()), "public final");
        Due.finish();
    }
}
