import java.lang.reflect.Constructor;
import java.lang.reflect.Field;
import java.lang.reflect.Member;
import java.lang.reflect.Method;
import java.lang.reflect.Modifier;
import java.util.ArrayList;
import java.util.Arrays;
import java.util.List;
import java.util.Set;
import java.util.TreeSet;

/** Whether the class has the document's face, and nothing else that can be seen from outside. */
public final class FaceTest {
    private static final Set<String> FACE = new TreeSet<>(Arrays.asList(
            "public static final int CheckRestart.NONE",
            "public CheckRestart()",
            "public int CheckRestart.cell(long)",
            "public int CheckRestart.file(int)",
            "public int CheckRestart.step(int)",
            "public int CheckRestart.check()",
            "public int CheckRestart.cut(int)",
            "public int CheckRestart.restart(int)",
            "public long CheckRestart.get(int) throws java.lang.IllegalArgumentException",
            "public int CheckRestart.position(int)",
            "public int CheckRestart.grow(int,int)",
            "public int CheckRestart.edition(int)",
            "public int CheckRestart.output(int)",
            "public int CheckRestart.torn(int)",
            "public int CheckRestart.row(int) throws java.lang.ArrayIndexOutOfBoundsException",
            "public boolean CheckRestart.equal()",
            "public int CheckRestart.count(int)"));

    public static void main(String[] args) {
        List<String> faults = new ArrayList<>();
        Class<?> c = CheckRestart.class;
        if (c.getModifiers() != (Modifier.PUBLIC | Modifier.FINAL)) {
            faults.add("the class is " + Modifier.toString(c.getModifiers()));
        }
        Set<String> seen = new TreeSet<>();
        Set<String> publicNames = new TreeSet<>();
        for (Member m : members(c)) {
            if (!Modifier.isPrivate(m.getModifiers())) {
                seen.add(m.toString());
                publicNames.add(m.getName());
            }
        }
        if (!seen.equals(FACE)) {
            faults.add("the face is " + seen);
        }
        for (Method m : c.getDeclaredMethods()) {
            if (Modifier.isPrivate(m.getModifiers()) && publicNames.contains(m.getName())) {
                faults.add("a private method bears the name " + m.getName());
            }
        }
        lookForStaticState(c, faults);
        for (Class<?> inside : c.getDeclaredClasses()) {
            int mods = inside.getModifiers();
            if (!Modifier.isStatic(mods) || Modifier.isPublic(mods) || Modifier.isProtected(mods)) {
                faults.add(inside.getName() + " is " + Modifier.toString(mods));
            }
            lookForStaticState(inside, faults);
        }
        for (String fault : faults) {
            System.out.println(fault);
        }
        System.out.println(faults.size() + " faults of the face");
        if (!faults.isEmpty()) {
            System.exit(1);
        }
    }

    private static List<Member> members(Class<?> c) {
        List<Member> all = new ArrayList<>();
        all.addAll(Arrays.<Field>asList(c.getDeclaredFields()));
        all.addAll(Arrays.<Method>asList(c.getDeclaredMethods()));
        all.addAll(Arrays.<Constructor<?>>asList(c.getDeclaredConstructors()));
        all.removeIf(Member::isSynthetic);
        return all;
    }

    private static void lookForStaticState(Class<?> c, List<String> faults) {
        for (Field f : c.getDeclaredFields()) {
            int mods = f.getModifiers();
            if (Modifier.isStatic(mods) && !Modifier.isFinal(mods)) {
                faults.add("static state: " + f);
            }
        }
    }
}
