import java.lang.reflect.Constructor;
import java.lang.reflect.Field;
import java.lang.reflect.Method;
import java.lang.reflect.Modifier;
import java.util.HashSet;
import java.util.List;
import java.util.Set;

/** The public face: just what the document has, and nothing else that is to be seen from outside. */
public final class FaceTest {
    private static final List<String> FACE = List.of(
        "text 1", "ground 1", "rule 1", "player 2", "role 2", "sees 2", "flag 2", "near 2", "go 1", "state 1", "anew 0",
        "seed 1", "judge 2", "game 2", "against 2", "table 4", "bestPlan 5", "fair 2", "smaller 3", "hour 2", "gain 3",
        "rests 2", "sure 2", "guards 3", "wayIn 4", "mayBe 2", "worth 1", "believed 1", "image 0", "restore 0",
        "count 1", "keep 4", "row 3", "put 3", "element 2", "copy 5", "counts 1", "toss 1");

    public static void main(String[] args) {
        Class<?> face = TwoFlags.class;
        Due.due("public and final", face.getModifiers() & (Modifier.PUBLIC | Modifier.FINAL), Modifier.PUBLIC | Modifier.FINAL);
        Set<String> names = new HashSet<>();
        int seen = 0;
        for (Method m : face.getDeclaredMethods()) {
            String name = m.getName() + " " + m.getParameterCount();
            if (Modifier.isPrivate(m.getModifiers())) {
                continue;
            }
            seen++;
            Due.due("in the face: " + name, FACE.contains(name) && Modifier.isPublic(m.getModifiers()) ? 1 : 0, 1);
            Class<?> answer = m.getName().equals("element") ? long.class : int.class;
            Due.due("answer of " + name, m.getReturnType() == answer ? 1 : 0, 1);
            names.add(m.getName());
            Set<Class<?>> thrown = Set.of(m.getExceptionTypes());
            Due.due("what " + name + " throws", thrown.equals(m.getName().equals("element")
                ? Set.of(IllegalArgumentException.class, IllegalStateException.class) : Set.of()) ? 1 : 0, 1);
            for (Class<?> c : m.getParameterTypes()) {
                Due.due("ints of " + name, c == int.class ? 1 : 0, 1);
            }
        }
        Due.due("methods", seen, FACE.size());
        for (Constructor<?> c : face.getDeclaredConstructors()) {
            Due.due("constructor", Modifier.isPublic(c.getModifiers()) && c.getParameterCount() == 0 ? 1 : 0, 1);
        }
        for (Field f : face.getDeclaredFields()) {
            Due.due("private field " + f.getName(), Modifier.isPrivate(f.getModifiers()) ? 1 : 0, 1);
        }
        inside(face, names);
        Due.end();
    }

    /** No method, of the class or of those inside it, that isn't of the face bears a name of the face. */
    private static void inside(Class<?> face, Set<String> names) {
        for (Method m : face.getDeclaredMethods()) {
            Due.due("name " + m.getName(), Modifier.isPrivate(m.getModifiers()) && names.contains(m.getName()) ? 1 : 0, 0);
        }
        for (Class<?> c : face.getDeclaredClasses()) {
            Due.due("static " + c, Modifier.isStatic(c.getModifiers()) ? 1 : 0, 1);
            Due.due("not public " + c, Modifier.isPublic(c.getModifiers()) ? 1 : 0, 0);
            Due.due("fields of " + c, c.getDeclaredFields().length <= 20 ? 1 : 0, 1);
            for (Method m : c.getDeclaredMethods()) {
                Due.due("name " + m.getName(), names.contains(m.getName()) ? 1 : 0, 0);
            }
        }
    }
}
