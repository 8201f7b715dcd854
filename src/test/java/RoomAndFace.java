import com.sun.management.ThreadMXBean;
import java.lang.management.ManagementFactory;
import java.lang.reflect.Constructor;
import java.lang.reflect.Field;
import java.lang.reflect.Method;
import java.lang.reflect.Modifier;
import java.util.TreeSet;

/** The face is the document's and no more, and the dearest runs of 512 calls, and 512 new objects, stay small. */
public final class RoomAndFace {
    private static final long ROOM_BYTES = 16_000_000L;

    public static void main(String[] args) {
        Check check = new Check();
        face(check);
        dearRun(check, true);
        dearRun(check, false);
        manyObjects(check);
        check.end();
    }

    private static void face(Check check) {
        TreeSet<String> seen = new TreeSet<>();
        Class<?> type = EditorPanels.class;
        check.due("the class's modifiers", type.getModifiers(), Modifier.PUBLIC | Modifier.FINAL);
        for (Method method : type.getDeclaredMethods()) {
            if (!Modifier.isPrivate(method.getModifiers())) {
                seen.add(method.toString().replace("EditorPanels.", ""));
            }
        }
        for (Constructor<?> constructor : type.getDeclaredConstructors()) {
            seen.add(constructor.toString());
        }
        for (Field field : type.getDeclaredFields()) {
            if (!Modifier.isPrivate(field.getModifiers())) {
                seen.add(field.toString().replace("EditorPanels.", ""));
            }
            boolean changes = Modifier.isStatic(field.getModifiers()) && !Modifier.isFinal(field.getModifiers());
            check.due("static state: " + field.getName(), changes ? 1 : 0, 0);
        }
        String[] due = {"public EditorPanels(int)", "public static final int NONE", "public int line()",
            "public void sign(int,int)", "public int command(int,int,int)", "public int find(int)",
            "public int change(boolean)", "public int word(int,boolean)", "public int exclude(int,int)",
            "public int sort(int,int)", "public int undo()", "public int save(int,int)", "public int lines()",
            "public int at(int,int)", "public int macro(int,int)", "public int panel(int,int)", "public int shown(int)",
            "public int count(int)"};
        check.due("the face", seen.toString(), new TreeSet<>(java.util.List.of(due)).toString());
    }

    /** 300 lines of 72 characters, each made anew by most of the calls. */
    private static void dearRun(Check check, boolean undoing) {
        ThreadMXBean bean = (ThreadMXBean) ManagementFactory.getThreadMXBean();
        long thread = Thread.currentThread().getId();
        long before = bean.getThreadAllocatedBytes(thread);
        EditorPanels x = Check.page(Check.repeat('a', 1) + Check.repeat('b', 71));
        x.command(1, 2, 100);
        x.command(1, 2, 100);
        x.command(1, 2, 99);
        Check.word(x, "ab", false);
        Check.word(x, "ba", true);
        int changed = 0;
        for (int i = 0; i < 420; i++) {
            if (undoing && i % 40 >= 20) {
                x.undo();
            } else {
                changed += x.change(true);
            }
        }
        check.due("lines changed", changed, undoing ? 220 * 300 : 71 * 300);
        check.due("lines", x.lines(), 300);
        small(check, bean.getThreadAllocatedBytes(thread) - before);
    }

    /** As many objects as one object sees calls. */
    private static void manyObjects(Check check) {
        ThreadMXBean bean = (ThreadMXBean) ManagementFactory.getThreadMXBean();
        long thread = Thread.currentThread().getId();
        long before = bean.getThreadAllocatedBytes(thread);
        for (int i = 0; i < 512; i++) {
            check.due("a new object's lines", new EditorPanels(i).lines(), 0);
        }
        small(check, bean.getThreadAllocatedBytes(thread) - before);
    }

    private static void small(Check check, long bytes) {
        check.due("a run that makes " + bytes + " bytes stays small", bytes < ROOM_BYTES ? 1 : 0, 1);
    }
}
