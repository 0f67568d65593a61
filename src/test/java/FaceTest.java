import java.lang.reflect.Constructor;
import java.lang.reflect.Field;
import java.lang.reflect.Member;
import java.lang.reflect.Method;
import java.lang.reflect.Modifier;
import java.util.ArrayList;
import java.util.Collections;
import java.util.List;
import java.util.TreeSet;

/** The class shows the document's face, and nothing besides. */
public final class FaceTest {
    private static final String[] FACE = {
        "public GuideWords()",
        "public static final int GuideWords.NONE",
        "public int GuideWords.set(int,int) throws java.lang.IllegalArgumentException",
        "public int GuideWords.push(int) throws java.lang.IllegalArgumentException",
        "public int GuideWords.feed(int,int,int,int,int)",
        "public int GuideWords.entry(int) throws java.lang.IllegalArgumentException",
        "public int GuideWords.see(int,int) throws java.lang.IllegalArgumentException",
        "public boolean GuideWords.drop(int) throws java.lang.IndexOutOfBoundsException",
        "public int GuideWords.order(int)",
        "public int GuideWords.leads(int) throws java.lang.IndexOutOfBoundsException",
        "public int GuideWords.set()",
        "public int GuideWords.told(int) throws java.lang.IllegalArgumentException",
        "public int GuideWords.column(int,int) throws java.lang.IndexOutOfBoundsException,"
            + "java.lang.IllegalArgumentException",
        "public int GuideWords.where(int,int) throws java.lang.IndexOutOfBoundsException",
        "public int GuideWords.guide(int,int) throws java.lang.IndexOutOfBoundsException,"
            + "java.lang.IllegalArgumentException",
        "public int GuideWords.thumb(int,int) throws java.lang.IllegalArgumentException",
        "public int GuideWords.volume()",
        "public int GuideWords.count(int)",
    };

    private static boolean isSeen(Member member) {
        return !Modifier.isPrivate(member.getModifiers()) && !member.isSynthetic();
    }

    public static void main(String[] args) {
        List<String> seen = new ArrayList<>();
        for (Constructor<?> constructor : GuideWords.class.getDeclaredConstructors()) {
            if (isSeen(constructor)) {
                seen.add(constructor.toString());
            }
        }
        for (Method method : GuideWords.class.getDeclaredMethods()) {
            if (isSeen(method)) {
                seen.add(method.toString());
            }
        }
        for (Field field : GuideWords.class.getDeclaredFields()) {
            if (isSeen(field)) {
                seen.add(field.toString());
            }
        }
        List<String> face = new ArrayList<>(List.of(FACE));
        boolean isRight = seen.size() == face.size() && new TreeSet<>(seen).equals(new TreeSet<>(face));
        isRight &= Modifier.isFinal(GuideWords.class.getModifiers());
        isRight &= Modifier.isPublic(GuideWords.class.getModifiers());
        if (!isRight) {
            Collections.sort(seen);
            System.out.println("the class shows another face: " + seen);
            System.exit(1);
        }
        System.out.println("the face is the document's");
    }
}
