import java.lang.reflect.Constructor;
import java.lang.reflect.Field;
import java.lang.reflect.Method;
import java.lang.reflect.Modifier;
import java.util.Arrays;
import java.util.TreeSet;

/** The class has the document's face, and no other member that can be seen from outside. */
public final class FaceTest {
    public static void main(String[] args) {
        Check.due("public final class", ScriptDesk.class.getModifiers(), Modifier.PUBLIC | Modifier.FINAL);
        TreeSet<String> seen = new TreeSet<>();
        for (Method method : ScriptDesk.class.getDeclaredMethods()) {
            if (!Modifier.isPrivate(method.getModifiers())) {
                seen.add(method.toString());
            }
        }
        TreeSet<String> face = new TreeSet<>(Arrays.asList(
            "public boolean ScriptDesk.put(long,int)",
            "public void ScriptDesk.secret(int)",
            "public int ScriptDesk.run()",
            "public int ScriptDesk.place()",
            "public int ScriptDesk.clear()",
            "public int ScriptDesk.size()",
            "public boolean ScriptDesk.isTrue()",
            "public int ScriptDesk.bytes(int)",
            "public int ScriptDesk.byteOf(int,int)",
            "public int ScriptDesk.count(int)"));
        Check.due("methods", seen.toString(), face.toString());
        for (Field field : ScriptDesk.class.getDeclaredFields()) {
            Check.due("private " + field, Modifier.isPrivate(field.getModifiers()), true);
        }
        Constructor<?>[] made = ScriptDesk.class.getDeclaredConstructors();
        Check.due("constructors", Arrays.toString(made), "[public ScriptDesk()]");
        Check.end("FaceTest");
    }
}
