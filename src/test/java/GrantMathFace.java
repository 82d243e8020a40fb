import java.lang.reflect.Constructor;
import java.lang.reflect.Field;
import java.lang.reflect.Member;
import java.lang.reflect.Method;
import java.lang.reflect.Modifier;
import java.util.Set;
import java.util.TreeSet;

/** The class has the document's public face, and no other member that its callers could see. */
public final class GrantMathFace {
    private static final String ILLEGAL = "java.lang.IllegalArgumentException";
    private static final String OUTSIDE = "java.lang.IndexOutOfBoundsException";
    private static final String BOTH = ILLEGAL + "," + OUTSIDE;

    private static final Set<String> DUE = Set.of(
            "public GrantMath()",
            "public void GrantMath.root(int,int,int,int) throws " + BOTH,
            "public void GrantMath.number(int,int) throws " + OUTSIDE,
            "public void GrantMath.move(int,int,int) throws " + OUTSIDE,
            "public boolean GrantMath.narrow(int,int,int) throws " + OUTSIDE,
            "public boolean GrantMath.restrict(int,int,int) throws " + OUTSIDE,
            "public int GrantMath.seal(int,int,int) throws " + OUTSIDE,
            "public int GrantMath.unseal(int,int,int) throws " + OUTSIDE,
            "public int GrantMath.allows(int,int,int,int) throws " + BOTH,
            "public boolean GrantMath.within(int,int) throws " + OUTSIDE,
            "public int GrantMath.part(int,int) throws " + BOTH,
            "public int GrantMath.count(int,int)");

    private static int wrong = 0;

    private static void tellWrong(String what) {
        wrong++;
        System.out.println(what);
    }

    private static boolean isSeen(Member m) {
        return !Modifier.isPrivate(m.getModifiers());
    }

    private static Set<String> seen() {
        Set<String> members = new TreeSet<>();
        for (Constructor<?> c : GrantMath.class.getDeclaredConstructors()) {
            if (isSeen(c)) {
                members.add(c.toString());
            }
        }
        for (Method m : GrantMath.class.getDeclaredMethods()) {
            if (isSeen(m)) {
                members.add(m.toString());
            }
        }
        for (Field f : GrantMath.class.getDeclaredFields()) {
            if (isSeen(f)) {
                members.add(f.toString());
            }
        }
        return members;
    }

    private static void theseMembersAndNoOthers() {
        Set<String> seen = seen();
        for (String member : DUE) {
            if (!seen.contains(member)) {
                tellWrong("missing: " + member);
            }
        }
        for (String member : seen) {
            if (!DUE.contains(member)) {
                tellWrong("not of the face: " + member);
            }
        }
    }

    /** A class above it or an interface would add members that the class itself does not declare. */
    private static void nothingIsInherited() {
        if (GrantMath.class.getSuperclass() != Object.class || GrantMath.class.getInterfaces().length != 0) {
            tellWrong("the class extends or implements another one");
        }
    }

    private static void publicAndFinal() {
        int kind = GrantMath.class.getModifiers();
        if (!Modifier.isPublic(kind) || !Modifier.isFinal(kind)) {
            tellWrong("the class is not public and final");
        }
    }

    private static void noClassInsideIsSeen() {
        for (Class<?> inside : GrantMath.class.getDeclaredClasses()) {
            int kind = inside.getModifiers();
            if (Modifier.isPublic(kind) || Modifier.isProtected(kind)) {
                tellWrong("not of the face: " + inside);
            }
        }
    }

    private static void noPrivateMethodHasAPublicName() {
        Set<String> names = new TreeSet<>();
        for (Method m : GrantMath.class.getMethods()) {
            names.add(m.getName());
        }
        for (Method m : GrantMath.class.getDeclaredMethods()) {
            if (!isSeen(m) && names.contains(m.getName())) {
                tellWrong("a private method has a public one's name: " + m);
            }
        }
    }

    public static void main(String[] args) {
        publicAndFinal();
        theseMembersAndNoOthers();
        nothingIsInherited();
        noClassInsideIsSeen();
        noPrivateMethodHasAPublicName();
        System.out.println(wrong == 0 ? "the face is as due" : wrong + " faults of the face");
        if (wrong != 0) {
            System.exit(1);
        }
    }
}
