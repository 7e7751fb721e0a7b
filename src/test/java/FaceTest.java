import java.lang.reflect.Constructor;
import java.lang.reflect.Field;
import java.lang.reflect.Member;
import java.lang.reflect.Method;
import java.lang.reflect.Modifier;
import java.util.Arrays;
import java.util.Set;
import java.util.TreeSet;

/** The class has the document's face and nothing else that is not private. */
public final class FaceTest {
    private static final String[] FACE = {
        "public static final int CustomerNotices.UNKNOWN",
        "public static final int CustomerNotices.OUTSIDE",
        "public static final int CustomerNotices.STATE",
        "public static final int CustomerNotices.ROOM",
        "public CustomerNotices()",
        "public int CustomerNotices.customer(int,int)",
        "public int CustomerNotices.wish(int,int,int,int)",
        "public int CustomerNotices.quiet(int,int,int)",
        "public int CustomerNotices.event(int,int,int,long)",
        "public int CustomerNotices.promise(int,int,long,long)",
        "public int CustomerNotices.tick(long)",
        "public int CustomerNotices.sent(int,int)",
        "public boolean CustomerNotices.works(int,boolean)",
        "public int CustomerNotices.out(int,int)",
        "public int CustomerNotices.failed(int)",
        "public int CustomerNotices.correct(int,long)",
        "public int CustomerNotices.join(int)",
    };

    public static void main(String[] args) {
        Check check = new Check();
        Class<?> face = CustomerNotices.class;
        Set<String> open = new TreeSet<>();
        Set<String> publicNames = new TreeSet<>();
        Set<String> hiddenNames = new TreeSet<>();
        for (Field f : face.getDeclaredFields()) {
            addIfOpen(open, f, f.toString());
            check.due("static and not final: " + f, isStatic(f) && !Modifier.isFinal(f.getModifiers()), false);
        }
        for (Constructor<?> c : face.getDeclaredConstructors()) {
            addIfOpen(open, c, c.toString());
        }
        for (Method m : face.getDeclaredMethods()) {
            addIfOpen(open, m, m.toString());
            (Modifier.isPrivate(m.getModifiers()) ? hiddenNames : publicNames).add(m.getName());
        }
        Set<String> wanted = new TreeSet<>(Arrays.asList(FACE));
        if (!open.equals(wanted)) {
            System.out.println("the face is " + open + ", due is " + wanted);
        }
        check.due("the face", open.equals(wanted), true);
        check.due("public and final", Modifier.toString(face.getModifiers()).equals("public final"), true);
        hiddenNames.retainAll(publicNames);
        check.due("private methods with a public one's name", hiddenNames.size(), 0);
        for (Class<?> inside : face.getDeclaredClasses()) {
            int m = inside.getModifiers();
            check.due("static: " + inside, Modifier.isStatic(m), true);
            check.due("public or protected: " + inside, Modifier.isPublic(m) || Modifier.isProtected(m), false);
        }
        check.due("UNKNOWN", CustomerNotices.UNKNOWN, -11);
        check.due("OUTSIDE", CustomerNotices.OUTSIDE, -12);
        check.due("STATE", CustomerNotices.STATE, -13);
        check.due("ROOM", CustomerNotices.ROOM, -14);
        check.end();
    }

    private static boolean isStatic(Member member) {
        return Modifier.isStatic(member.getModifiers());
    }

    private static void addIfOpen(Set<String> open, Member member, String told) {
        if (!Modifier.isPrivate(member.getModifiers())) {
            open.add(told);
        }
    }
}
