import java.lang.reflect.Constructor;
import java.lang.reflect.Field;
import java.lang.reflect.Member;
import java.lang.reflect.Method;
import java.lang.reflect.Modifier;
import java.util.Arrays;
import java.util.Set;
import java.util.TreeSet;

/** The face: the document's members, and no other that is not private. */
public final class FaceTest {
    private static final String[] FACE = {
        "public static final int MessageReader.NONE",
        "public static final int MessageReader.MORE",
        "public static final int MessageReader.INVALID",
        "public static final int MessageReader.LARGE",
        "public static final int MessageReader.DEEP",
        "public MessageReader()",
        "public int MessageReader.feed(int) throws java.lang.IllegalArgumentException,java.lang.IllegalStateException",
        "public int MessageReader.put(long,int) throws java.lang.IllegalArgumentException,java.lang.IllegalStateException",
        "public int MessageReader.cut(int) throws java.lang.IllegalArgumentException",
        "public int MessageReader.byteAt(int) throws java.lang.IllegalArgumentException",
        "public int MessageReader.next()",
        "public int MessageReader.skip()",
        "public int MessageReader.kind()",
        "public int MessageReader.valueLow()",
        "public int MessageReader.valueHigh()",
        "public int MessageReader.payload(int)",
        "public int MessageReader.level()",
        "public long MessageReader.remaining(int) throws java.lang.IllegalArgumentException",
        "public int MessageReader.consumed()",
        "public int MessageReader.whole()",
        "public int MessageReader.pack(int,int,int)"
            + " throws java.lang.IllegalArgumentException,java.lang.IllegalStateException",
    };

    public static void main(String[] args) {
        Check check = new Check("the face");
        check.sentence("public final class MessageReader", () -> {
            check.due("the class's modifiers", Modifier.toString(MessageReader.class.getModifiers()), "public final");
        });
        check.sentence("the public constructor, methods and constants of the document and no other", () -> {
            check.due("members that are not private", visibleMembers().toString(),
                new TreeSet<>(Arrays.asList(FACE)).toString());
        });
        check.sentence("No private method bears the name of a public one", () -> {
            check.due("such methods", hiddenNamesakes().toString(), "[]");
        });
        check.sentence("NONE = -1, MORE = -2, INVALID = -3, LARGE = -4, DEEP = -5", () -> {
            check.due("NONE", MessageReader.NONE, -1);
            check.due("MORE", MessageReader.MORE, -2);
            check.due("INVALID", MessageReader.INVALID, -3);
            check.due("LARGE", MessageReader.LARGE, -4);
            check.due("DEEP", MessageReader.DEEP, -5);
        });
        check.finish();
    }

    private static Set<String> visibleMembers() {
        Set<String> members = new TreeSet<>();
        for (Field field : MessageReader.class.getDeclaredFields()) {
            addVisible(members, field, field.toString());
        }
        for (Constructor<?> constructor : MessageReader.class.getDeclaredConstructors()) {
            addVisible(members, constructor, constructor.toString());
        }
        for (Method method : MessageReader.class.getDeclaredMethods()) {
            addVisible(members, method, method.toString());
        }
        return members;
    }

    private static void addVisible(Set<String> members, Member member, String text) {
        if (!Modifier.isPrivate(member.getModifiers()) && !member.isSynthetic()) {
            members.add(text);
        }
    }

    private static Set<String> hiddenNamesakes() {
        Set<String> visible = new TreeSet<>();
        Set<String> hidden = new TreeSet<>();
        for (Method method : MessageReader.class.getDeclaredMethods()) {
            (Modifier.isPrivate(method.getModifiers()) ? hidden : visible).add(method.getName());
        }
        hidden.retainAll(visible);
        return hidden;
    }
}
