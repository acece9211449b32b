import java.lang.reflect.Constructor;
import java.lang.reflect.Field;
import java.lang.reflect.Method;
import java.lang.reflect.Modifier;
import java.util.List;
import java.util.TreeSet;

/** The class shows the document's face and nothing else (and rule 1 of LANGUAGE.md). */
public final class FaceTest {
    private static final List<String> FACE = List.of(
        "int append(int,int)", "boolean enter(int)", "void clear()", "int size()", "int byteAt(int)",
        "int entry(int)", "int length(int)", "int reach()", "boolean reached(int)", "int body(int)",
        "int sweep()", "int list()", "int textLength()", "int charAt(int)", "boolean type(int,int)",
        "int assemble()", "int made(int)");

    public static void main(String[] args) {
        Class<?> c = CodeLister.class;
        Check.due("public and final", Modifier.toString(c.getModifiers()), "public final");
        Constructor<?>[] constructors = c.getDeclaredConstructors();
        Check.due("constructors", constructors.length, 1);
        Check.due("the constructor", constructors[0].toString(), "public CodeLister()");
        TreeSet<String> seen = new TreeSet<>();
        for (Method m : c.getDeclaredMethods()) {
            if (!Modifier.isPrivate(m.getModifiers())) {
                Check.due("modifiers of " + m.getName(), Modifier.toString(m.getModifiers()), "public");
                seen.add(m.toString().replace("public ", "").replace("CodeLister.", ""));
            }
        }
        Check.due("methods", seen, new TreeSet<>(FACE));
        for (Field f : c.getDeclaredFields()) {
            Check.due("private: " + f.getName(), Modifier.isPrivate(f.getModifiers()), true);
        }
        Check.end();
    }
}
