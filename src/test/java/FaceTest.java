import java.lang.reflect.Constructor;
import java.lang.reflect.Field;
import java.lang.reflect.Method;
import java.lang.reflect.Modifier;
import java.util.Set;
import java.util.TreeSet;

/** The class has the document's face, and no other member that another class could see. */
public final class FaceTest {
    private static final Set<String> FACE = Set.of(
        "public static final int NoteSheet.NONE",
        "public static final long NoteSheet.BAD",
        "public NoteSheet(int)",
        "public boolean NoteSheet.type(char)",
        "public int NoteSheet.define(int)",
        "public boolean NoteSheet.set(int,int,int)",
        "public long NoteSheet.ask(int)",
        "public int NoteSheet.revision()",
        "public int NoteSheet.changed(int)",
        "public int NoteSheet.note(int,int)",
        "public int NoteSheet.read(int,int)",
        "public int NoteSheet.count(int)");

    public static void main(String[] args) {
        Check check = new Check("face");
        Set<String> seen = new TreeSet<>();
        for (Field field : NoteSheet.class.getDeclaredFields()) {
            addVisible(seen, field.getModifiers(), field.toGenericString());
        }
        for (Method method : NoteSheet.class.getDeclaredMethods()) {
            addVisible(seen, method.getModifiers(), method.toGenericString());
        }
        for (Constructor<?> constructor : NoteSheet.class.getDeclaredConstructors()) {
            addVisible(seen, constructor.getModifiers(), constructor.toGenericString());
        }
        for (String member : FACE) {
            check.due("is there: " + member, seen.contains(member), true);
        }
        for (String member : seen) {
            check.due("is of the face: " + member, FACE.contains(member), true);
        }
        check.due("is final", Modifier.isFinal(NoteSheet.class.getModifiers()), true);
        check.due("is public", Modifier.isPublic(NoteSheet.class.getModifiers()), true);
        check.end();
    }

    private static void addVisible(Set<String> seen, int modifiers, String member) {
        if (!Modifier.isPrivate(modifiers)) {
            seen.add(member);
        }
    }
}
