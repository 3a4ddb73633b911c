import java.lang.reflect.Constructor;
import java.lang.reflect.Field;
import java.lang.reflect.Member;
import java.lang.reflect.Method;
import java.lang.reflect.Modifier;
import java.util.Set;
import java.util.TreeSet;

/** The public face: what the document lists, and no other member that is seen from outside. */
public final class FaceTest {
    private static final Set<String> DUE = new TreeSet<>(Set.of(
        "public static final int ShortForms.NONE",
        "public ShortForms()",
        "public int ShortForms.expand(int) throws java.lang.IllegalArgumentException",
        "public int ShortForms.shorten(int)",
        "public int ShortForms.halves(int)",
        "public boolean ShortForms.take(int) throws java.lang.IllegalArgumentException",
        "public int ShortForms.word()",
        "public int ShortForms.length()",
        "public int ShortForms.whole()",
        "public boolean ShortForms.drop()"));

    public static void main(String[] args) {
        Check check = new Check();
        Set<String> seen = new TreeSet<>();
        for (Field field : ShortForms.class.getDeclaredFields()) {
            note(seen, field, field.toString());
        }
        for (Constructor<?> constructor : ShortForms.class.getDeclaredConstructors()) {
            note(seen, constructor, constructor.toString());
        }
        for (Method method : ShortForms.class.getDeclaredMethods()) {
            note(seen, method, method.toString());
        }
        check.same("the face", seen, DUE);
        check.same("the class", Modifier.toString(ShortForms.class.getModifiers()), "public final");
        // A class above it or an interface would add members to the face.
        check.same("the class above", ShortForms.class.getSuperclass(), Object.class);
        check.same("its interfaces", ShortForms.class.getInterfaces().length, 0);
        check.same("NONE", ShortForms.NONE, -1);
        check.end();
    }

    private static void note(Set<String> seen, Member member, String text) {
        if (!Modifier.isPrivate(member.getModifiers())) {
            seen.add(text);
        }
    }
}
