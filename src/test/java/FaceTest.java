import java.lang.reflect.Constructor;
import java.lang.reflect.Field;
import java.lang.reflect.Member;
import java.lang.reflect.Method;
import java.lang.reflect.Modifier;
import java.util.Arrays;
import java.util.List;
import java.util.TreeSet;

/** The class has the document's face and nothing else that can be seen. */
final class FaceTest {
    private static final List<String> FACE = List.of(
            "int NONE",
            "ChannelLoom()",
            "int setNote(int,int,int,int,int) IndexOutOfBoundsException IllegalArgumentException",
            "int setEffect(int,int,int,int,int) IndexOutOfBoundsException IllegalArgumentException",
            "int setRows(int,int) IndexOutOfBoundsException IllegalArgumentException",
            "int setOrder(int,int) IndexOutOfBoundsException IllegalArgumentException",
            "int shorten() IllegalStateException",
            "int cell(int,int,int,int) IndexOutOfBoundsException IllegalArgumentException",
            "int pattern(int,int) IndexOutOfBoundsException IllegalArgumentException",
            "int order(int) IndexOutOfBoundsException",
            "int play(int) IllegalArgumentException IllegalStateException",
            "int restart()",
            "int steal(int,int,int) IndexOutOfBoundsException IllegalArgumentException",
            "int giveBack(int) IndexOutOfBoundsException",
            "int channel(int,int) IndexOutOfBoundsException IllegalArgumentException",
            "int value(int) IllegalArgumentException",
            "int hashOf(int) IllegalArgumentException",
            "int ticksToRound()",
            "int silent(int,int) IndexOutOfBoundsException IllegalArgumentException",
            "int deepest(int,int) IndexOutOfBoundsException IllegalArgumentException",
            "int unheard(int,int) IndexOutOfBoundsException IllegalArgumentException",
            "double meanVolume()",
            "int append(int) IllegalArgumentException IllegalStateException",
            "int clearText()",
            "int parse()",
            "int undo() IllegalStateException",
            "long digest()");

    private FaceTest() {
    }

    static void run() {
        Class<?> c = ChannelLoom.class;
        Check.holds("the class is public and final", Modifier.isPublic(c.getModifiers()) && Modifier.isFinal(c.getModifiers()));
        Check.same("NONE", -1, ChannelLoom.NONE);
        TreeSet<String> seen = new TreeSet<>();
        for (Field f : c.getDeclaredFields()) {
            if (isSeen(f)) {
                seen.add(f.getType() + " " + f.getName());
            }
        }
        for (Constructor<?> made : c.getDeclaredConstructors()) {
            if (isSeen(made)) {
                seen.add("ChannelLoom" + names("(", ",", ")", made.getParameterTypes()) + names("", " ", "", made.getExceptionTypes()));
            }
        }
        TreeSet<String> hidden = new TreeSet<>();
        for (Method m : c.getDeclaredMethods()) {
            if (isSeen(m)) {
                String thrown = names(" ", " ", "", m.getExceptionTypes());
                seen.add(m.getReturnType() + " " + m.getName() + names("(", ",", ")", m.getParameterTypes())
                        + (thrown.isBlank() ? "" : thrown));
            } else {
                hidden.add(m.getName());
            }
        }
        for (String member : FACE) {
            Check.holds("the face has " + member, seen.contains(member));
            for (String name : hidden) {
                Check.holds("no private method is named " + name, !member.contains(" " + name + "("));
            }
        }
        for (String member : seen) {
            Check.holds(member + " is in the document", FACE.contains(member));
        }
    }

    private static boolean isSeen(Member member) {
        return !Modifier.isPrivate(member.getModifiers()) && !member.isSynthetic();
    }

    private static String names(String begin, String between, String end, Class<?>[] types) {
        return begin + String.join(between, Arrays.stream(types).map(Class::getSimpleName).toList()) + end;
    }
}
