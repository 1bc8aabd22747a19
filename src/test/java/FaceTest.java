import java.lang.reflect.Constructor;
import java.lang.reflect.Field;
import java.lang.reflect.Member;
import java.lang.reflect.Method;
import java.lang.reflect.Modifier;
import java.util.Set;
import java.util.TreeSet;

/** The public face is the document's and nothing else (LANGUAGE.md, rule 1). */
public final class FaceTest {
    private static final Set<String> FACE = Set.of(
            "public static final int PacedMux.BAD",
            "public static final int PacedMux.FULL",
            "public static final int PacedMux.ORDER",
            "public PacedMux(int,int)",
            "public int PacedMux.add(int,int,int,int)",
            "public int PacedMux.tick(int)",
            "public int PacedMux.lose(int)",
            "public int PacedMux.spoil(int,int)",
            "public int PacedMux.packet(int)",
            "public int PacedMux.waiting(int)",
            "public int PacedMux.stored(int)",
            "public int PacedMux.levels(int)",
            "public int PacedMux.late(int)",
            "public int PacedMux.clock()",
            "public void PacedMux.retune()",
            "public int PacedMux.count(int)",
            "public int PacedMux.latest(int,int)",
            "public int PacedMux.letter(int,int)");

    public static void main(String[] args) {
        Set<String> seen = new TreeSet<>();
        for (Field field : PacedMux.class.getDeclaredFields()) {
            note(seen, field, field.toString());
        }
        for (Constructor<?> constructor : PacedMux.class.getDeclaredConstructors()) {
            note(seen, constructor, constructor.toString());
        }
        for (Method method : PacedMux.class.getDeclaredMethods()) {
            note(seen, method, method.toString());
        }
        Check check = new Check();
        for (String member : FACE) {
            check.due("has " + member, seen.contains(member) ? 1 : 0, 1);
        }
        for (String member : seen) {
            check.due("is of the face: " + member, FACE.contains(member) ? 1 : 0, 1);
        }
        int modifiers = PacedMux.class.getModifiers();
        check.due("public", Modifier.isPublic(modifiers) ? 1 : 0, 1);
        check.due("final", Modifier.isFinal(modifiers) ? 1 : 0, 1);
        check.due("BAD", PacedMux.BAD, -1);
        check.due("FULL", PacedMux.FULL, -2);
        check.due("ORDER", PacedMux.ORDER, -3);
        check.end();
    }

    private static void note(Set<String> seen, Member member, String text) {
        if (!Modifier.isPrivate(member.getModifiers()) && !member.isSynthetic()) {
            seen.add(text);
        }
    }
}
