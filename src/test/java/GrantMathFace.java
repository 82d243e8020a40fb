import java.lang.reflect.Constructor;
import java.lang.reflect.Field;
import java.lang.reflect.Method;
import java.lang.reflect.Modifier;
import java.util.Set;
import java.util.TreeSet;

/** The class has the document's public face, and no other member that its callers could see. */
public final class GrantMathFace {
    private static final String ILLEGAL = "java.lang.IllegalArgumentException";
    private static final String OUTSIDE = "java.lang.IndexOutOfBoundsException";
    private static final String BOTH = ILLEGAL + "," + OUTSIDE;

    private static final Set<String> DUE = Set.of(
            "public GrantMath()",
            "public void GrantMath.root(int,int,int,int) throws " + BOTH,
            "public void GrantMath.number(int,int) throws " + OUTSIDE,
            "public void GrantMath.move(int,int,int) throws " + OUTSIDE,
            "public boolean GrantMath.narrow(int,int,int) throws " + OUTSIDE,
            "public boolean GrantMath.restrict(int,int,int) throws " + OUTSIDE,
            "public int GrantMath.seal(int,int,int) throws " + OUTSIDE,
            "public int GrantMath.unseal(int,int,int) throws " + OUTSIDE,
            "public int GrantMath.allows(int,int,int,int) throws " + BOTH,
            "public boolean GrantMath.within(int,int) throws " + OUTSIDE,
            "public int GrantMath.part(int,int) throws " + BOTH,
            "public int GrantMath.count(int,int)");

    private static Set<String> seen() {
        Set<String> members = new TreeSet<>();
        for (Constructor<?> c : GrantMath.class.getDeclaredConstructors()) {
            members.add(c.toString());
        }
        for (Method m : GrantMath.class.getDeclaredMethods()) {
            if (!Modifier.isPrivate(m.getModifiers())) {
                members.add(m.toString());
            }
        }
        for (Field f : GrantMath.class.getDeclaredFields()) {
            if (!Modifier.isPrivate(f.getModifiers())) {
                members.add(f.toString());
            }
        }
        return members;
    }

    public static void main(String[] args) {
        Set<String> missing = new TreeSet<>(DUE);
        missing.removeAll(seen());
        Set<String> tooMany = seen();
        tooMany.removeAll(DUE);
        int kind = GrantMath.class.getModifiers();
        boolean right = missing.isEmpty() && tooMany.isEmpty()
                && Modifier.isPublic(kind) && Modifier.isFinal(kind);
        System.out.println(right ? "the face is as due" : "missing " + missing + ", too many " + tooMany);
        if (!right) {
            System.exit(1);
        }
    }
}
