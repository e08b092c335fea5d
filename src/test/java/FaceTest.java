import java.lang.reflect.Constructor;
import java.lang.reflect.Field;
import java.lang.reflect.Method;
import java.lang.reflect.Modifier;
import java.util.Set;
import java.util.TreeSet;

/** The face of the class is the document's, and no more. */
final class FaceTest {
    public static void main(String[] args) {
        Check check = new Check();
        Set<String> due = new TreeSet<>(Set.of(
                "public int ContextUnfolder.put(int,int) throws java.lang.IllegalArgumentException,"
                        + "java.lang.IllegalStateException",
                "public boolean ContextUnfolder.bit(int) throws java.lang.IndexOutOfBoundsException",
                "public void ContextUnfolder.flip(int) throws java.lang.IndexOutOfBoundsException",
                "public int ContextUnfolder.cut(int) throws java.lang.IllegalArgumentException",
                "public int ContextUnfolder.unfold() throws java.lang.IllegalArgumentException",
                "public int ContextUnfolder.taken()",
                "public int ContextUnfolder.letter(int) throws java.lang.IndexOutOfBoundsException",
                "public int ContextUnfolder.count(int) throws java.lang.IllegalArgumentException"));
        Set<String> got = new TreeSet<>();
        for (Method method : ContextUnfolder.class.getDeclaredMethods()) {
            if (!Modifier.isPrivate(method.getModifiers())) {
                got.add(method.toString());
            }
        }
        check.isTrue("the methods are " + got, got.equals(due));
        for (Field field : ContextUnfolder.class.getDeclaredFields()) {
            check.isTrue(field + " is private", Modifier.isPrivate(field.getModifiers()));
        }
        Constructor<?>[] constructors = ContextUnfolder.class.getDeclaredConstructors();
        check.equal("how many constructors", constructors.length, 1);
        check.isTrue("the constructor", constructors[0].toString().equals("public ContextUnfolder()"));
        int modifiers = ContextUnfolder.class.getModifiers();
        check.isTrue("public and final", Modifier.isPublic(modifiers) && Modifier.isFinal(modifiers));
        check.end();
    }
}
