import java.lang.reflect.Constructor;
import java.lang.reflect.Field;
import java.lang.reflect.Method;
import java.lang.reflect.Modifier;
import java.util.TreeSet;

/** The face of the class: what the document lists, with the exceptions that it declares, and nothing else. */
public final class FaceTest {
    private static final String N = "java.lang.IndexOutOfBoundsException";
    private static final String M = ",java.util.NoSuchElementException";
    private static final String A = ",java.lang.IllegalArgumentException";
    private static final String S = ",java.lang.IllegalStateException";
    private static final String[] FACE = {
        "public static final int RiverDesk.NONE",
        "public RiverDesk()",
        "public void RiverDesk.reach(int,int) throws " + N + M + S,
        "public void RiverDesk.reservoir(int,int,int) throws " + N + M + A + S,
        "public void RiverDesk.right(int,int,int,int,int,int) throws " + N + M + A + S,
        "public void RiverDesk.storage(int,int,int,int,int) throws " + N + M + A + S,
        "public void RiverDesk.drop(int) throws " + N + M,
        "public void RiverDesk.want(int,int) throws " + N + M + A,
        "public void RiverDesk.inflow(int,int) throws " + N + M + A,
        "public int RiverDesk.release(int,int,int) throws " + N + M + A + S,
        "public int RiverDesk.plan()",
        "public int RiverDesk.given(int) throws " + N + M,
        "public long RiverDesk.flow(int,int) throws " + N + M,
        "public int RiverDesk.call(int) throws " + N + M,
        "public boolean RiverDesk.futile(int,int) throws " + N + M,
        "public int RiverDesk.close()",
        "public int RiverDesk.held(int,int)",
        "public long RiverDesk.book(int,int)",
        "public int RiverDesk.about(int,int)",
        "public int RiverDesk.aged(int)",
    };

    private static TreeSet<String> membersOpenToOthers() {
        TreeSet<String> members = new TreeSet<>();
        for (Field field : RiverDesk.class.getDeclaredFields()) {
            if (!Modifier.isPrivate(field.getModifiers())) {
                members.add(field.toString());
            }
        }
        for (Constructor<?> constructor : RiverDesk.class.getDeclaredConstructors()) {
            if (!Modifier.isPrivate(constructor.getModifiers())) {
                members.add(constructor.toString());
            }
        }
        for (Method method : RiverDesk.class.getDeclaredMethods()) {
            if (!Modifier.isPrivate(method.getModifiers())) {
                members.add(method.toString());
            }
        }
        return members;
    }

    private static int strangeClasses() {
        int strange = 0;
        for (Class<?> inside : RiverDesk.class.getDeclaredClasses()) {
            int modifiers = inside.getModifiers();
            if (Modifier.isPublic(modifiers) || Modifier.isProtected(modifiers) || !Modifier.isStatic(modifiers)) {
                System.out.println("not as the rules ask: " + inside);
                strange++;
            }
        }
        return strange;
    }

    public static void main(String[] args) {
        TreeSet<String> wrong = membersOpenToOthers();
        for (String member : FACE) {
            if (!wrong.remove(member)) {
                wrong.add("missing: " + member);
            }
        }
        for (String member : wrong) {
            System.out.println("not in the face: " + member);
        }
        boolean isFinal = Modifier.isFinal(RiverDesk.class.getModifiers());
        boolean fine = wrong.isEmpty() && isFinal && strangeClasses() == 0;
        System.out.println(fine ? "the face is as due" : "the face is not as due");
        if (!fine) {
            System.exit(1);
        }
    }
}
