import java.lang.reflect.Constructor;
import java.lang.reflect.Field;
import java.lang.reflect.Method;
import java.lang.reflect.Modifier;
import java.util.TreeSet;

/**
 * The face of the class: what the document lists, with the exceptions that it declares, and nothing else; and what
 * the rules of the language ask of all members, as far as it can be seen from outside.
 */
public final class FaceTest {
    private static final String N = "java.lang.IndexOutOfBoundsException";
    private static final String M = ",java.util.NoSuchElementException";
    private static final String A = ",java.lang.IllegalArgumentException";
    private static final String S = ",java.lang.IllegalStateException";
    private static final String[] FACE = {
        "public static final int RiverDesk.NONE",
        "public RiverDesk()",
        "public void RiverDesk.reach(int,int) throws " + N + M + S,
        "public void RiverDesk.reservoir(int,int,int) throws " + N + M + A + S,
        "public void RiverDesk.right(int,int,int,int,int,int) throws " + N + M + A + S,
        "public void RiverDesk.storage(int,int,int,int,int) throws " + N + M + A + S,
        "public void RiverDesk.drop(int) throws " + N + M,
        "public void RiverDesk.want(int,int) throws " + N + M + A,
        "public void RiverDesk.inflow(int,int) throws " + N + M + A,
        "public int RiverDesk.release(int,int,int) throws " + N + M + A + S,
        "public int RiverDesk.plan()",
        "public int RiverDesk.given(int) throws " + N + M,
        "public long RiverDesk.flow(int,int) throws " + N + M,
        "public int RiverDesk.call(int) throws " + N + M,
        "public boolean RiverDesk.futile(int,int) throws " + N + M,
        "public int RiverDesk.close()",
        "public int RiverDesk.held(int,int)",
        "public long RiverDesk.book(int,int)",
        "public int RiverDesk.about(int,int)",
        "public int RiverDesk.aged(int)",
    };

    private static TreeSet<String> membersOpenToOthers() {
        TreeSet<String> members = new TreeSet<>();
        for (Field field : RiverDesk.class.getDeclaredFields()) {
            if (!Modifier.isPrivate(field.getModifiers())) {
                members.add(field.toString());
            }
        }
        for (Constructor<?> constructor : RiverDesk.class.getDeclaredConstructors()) {
            if (!Modifier.isPrivate(constructor.getModifiers())) {
                members.add(constructor.toString());
            }
        }
        for (Method method : RiverDesk.class.getDeclaredMethods()) {
            if (!Modifier.isPrivate(method.getModifiers())) {
                members.add(method.toString());
            }
        }
        return members;
    }

    private static int strange(String rule, boolean kept, Object what) {
        if (!kept) {
            System.out.println("not as rule " + rule + " asks: " + what);
        }
        return kept ? 0 : 1;
    }

    private static int strangeClasses() {
        int strange = strangeMembers(RiverDesk.class);
        for (Class<?> inside : RiverDesk.class.getDeclaredClasses()) {
            int modifiers = inside.getModifiers();
            boolean open = Modifier.isPublic(modifiers) || Modifier.isProtected(modifiers);
            strange += strange("1", !open && Modifier.isStatic(modifiers), inside);
            strange += strangeMembers(inside);
        }
        return strange;
    }

    private static int strangeMembers(Class<?> owner) {
        int strange = 0;
        for (Field field : owner.getDeclaredFields()) {
            boolean lasting = Modifier.isFinal(field.getModifiers()) || !Modifier.isStatic(field.getModifiers());
            strange += strange("5", lasting, field);
        }
        for (Method method : owner.getDeclaredMethods()) {
            boolean ofTheFace = owner == RiverDesk.class && Modifier.isPublic(method.getModifiers());
            strange += strange("1", ofTheFace || !isNameOfTheFace(method.getName()), method);
            strange += strange("11", method.getParameterCount() <= 7, method);
        }
        return strange;
    }

    private static boolean isNameOfTheFace(String name) {
        for (String member : FACE) {
            if (member.contains("RiverDesk." + name + "(")) {
                return true;
            }
        }
        return false;
    }

    public static void main(String[] args) {
        TreeSet<String> wrong = membersOpenToOthers();
        for (String member : FACE) {
            if (!wrong.remove(member)) {
                wrong.add("missing: " + member);
            }
        }
        for (String member : wrong) {
            System.out.println("not in the face: " + member);
        }
        boolean isFinal = Modifier.isFinal(RiverDesk.class.getModifiers());
        boolean fine = wrong.isEmpty() && isFinal && strangeClasses() == 0;
        System.out.println(fine ? "the face is as due" : "the face is not as due");
        if (!fine) {
            System.exit(1);
        }
    }
}
