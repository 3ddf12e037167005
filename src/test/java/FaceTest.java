import java.lang.reflect.Constructor;
import java.lang.reflect.Field;
import java.lang.reflect.Method;
import java.lang.reflect.Modifier;
import java.util.Arrays;
import java.util.TreeSet;

/** The public face: what the document has, and nothing beside it. */
public final class FaceTest {
    private static final String[] FACE = {
        "public static final int MailHeads.NONE",
        "public MailHeads()",
        "public void MailHeads.feed(int,int,int,int,int)",
        "public int MailHeads.end(int)",
        "public int MailHeads.read()",
        "public int MailHeads.bad()",
        "public int MailHeads.find()",
        "public int MailHeads.field(int,int)",
        "public int MailHeads.fieldByte(int,int,int)",
        "public int MailHeads.addresses(int) throws java.lang.IndexOutOfBoundsException",
        "public int MailHeads.identities(int) throws java.lang.IndexOutOfBoundsException",
        "public long MailHeads.date(int) throws java.lang.IndexOutOfBoundsException",
        "public boolean MailHeads.type(int) throws java.lang.IndexOutOfBoundsException",
        "public int MailHeads.group(int,int)",
        "public int MailHeads.length(int,int)",
        "public int MailHeads.at(int,int,int)",
        "public int MailHeads.parameter()",
        "public int MailHeads.parameterByte(boolean,int)",
    };

    public static void main(String[] args) {
        TreeSet<String> seen = new TreeSet<>();
        for (Field field : MailHeads.class.getDeclaredFields()) {
            if (!Modifier.isPrivate(field.getModifiers())) {
                seen.add(field.toGenericString());
            }
        }
        for (Constructor<?> constructor : MailHeads.class.getDeclaredConstructors()) {
            seen.add(constructor.toGenericString());
        }
        for (Method method : MailHeads.class.getDeclaredMethods()) {
            if (!Modifier.isPrivate(method.getModifiers())) {
                seen.add(method.toGenericString());
            }
        }
        TreeSet<String> due = new TreeSet<>(Arrays.asList(FACE));
        Check.same("the face", String.join("\n", seen), String.join("\n", due));
        int modifiers = MailHeads.class.getModifiers();
        Check.same("public and final", Modifier.isPublic(modifiers) && Modifier.isFinal(modifiers) ? 1 : 0, 1);
        Check.same("NONE", MailHeads.NONE, -1);
        Check.done();
    }
}
