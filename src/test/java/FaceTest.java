import java.lang.reflect.Constructor;
import java.lang.reflect.Field;
import java.lang.reflect.Method;
import java.lang.reflect.Modifier;
import java.util.Set;
import java.util.TreeSet;

/** The public face: every constant, constructor and method of the document, and no other. */
public final class FaceTest {
    private static final Set<String> FACE = Set.of(
        "public static final int ALL_PINNED",
        "public static final int BAD_PAGE",
        "public static final int NOT_PINNED",
        "public static final int BAD_OFFSET",
        "public FramePool(int,int,int)",
        "public void init()",
        "public int fetch(int)",
        "public int unpin(int)",
        "public int readWord(int,int)",
        "public int writeWord(int,int,int)",
        "public int flush(int)",
        "public int flushAll()",
        "public boolean drop(int)",
        "public int copy(int,int)",
        "public int diskWord(int,int)",
        "public boolean resident(int)",
        "public int diskReads()",
        "public int diskWrites()",
        "public int told(int,int)",
        "public int hand()",
        "public int pinned()");

    public static void main(String[] args) {
        Due due = new Due("FaceTest");
        due.is("the class's modifiers", FramePool.class.getModifiers(),
            Modifier.PUBLIC | Modifier.FINAL);
        due.is("the face", visibleMembers(), new TreeSet<>(FACE));
        due.is("ALL_PINNED", FramePool.ALL_PINNED, -1);
        due.is("BAD_PAGE", FramePool.BAD_PAGE, -2);
        due.is("NOT_PINNED", FramePool.NOT_PINNED, -3);
        due.is("BAD_OFFSET", FramePool.BAD_OFFSET, -4);
        due.end();
    }

    private static Set<String> visibleMembers() {
        Set<String> found = new TreeSet<>();
        for (Field field : FramePool.class.getDeclaredFields()) {
            if (!Modifier.isPrivate(field.getModifiers())) {
                found.add(plain(field.toString()));
            }
        }
        for (Constructor<?> constructor : FramePool.class.getDeclaredConstructors()) {
            if (!Modifier.isPrivate(constructor.getModifiers())) {
                found.add(plain(constructor.toString()));
            }
        }
        for (Method method : FramePool.class.getDeclaredMethods()) {
            if (!Modifier.isPrivate(method.getModifiers())) {
                found.add(plain(method.toString()));
            }
        }
        return found;
    }

    private static String plain(String member) {
        return member.replace("FramePool.", "");
    }
}
