import java.util.Arrays;

/** For each promise of the document: ordinary inputs, the edges it names, and wrong inputs. */
public final class GrantMathPromises {
    private static final int ADDRESS = 0;
    private static final int BASE = 1;
    private static final int TOP = 2;
    private static final int PERMISSIONS = 3;
    private static final int TYPE = 4;
    private static final int TAG = 5;

    private static final int SEAL = 32;
    private static final int UNSEAL = 64;
    private static final int[] NO_GRANTS = {-1, 16, Integer.MIN_VALUE, Integer.MAX_VALUE};

    private static int wrong = 0;

    private interface Call {
        void run();
    }

    private static void due(String what, Object got, Object want) {
        if (!got.equals(want)) {
            wrong++;
            System.out.println(what + " answered " + got + ", due is " + want);
        }
    }

    private static void dueThrow(String what, Class<?> want, Call call) {
        try {
            call.run();
            due(what, "no throw", want.getSimpleName());
        } catch (RuntimeException e) {
            due(what, e.getClass().getSimpleName(), want.getSimpleName());
        }
    }

    private static void dueIllegal(String what, Call call) {
        dueThrow(what, IllegalArgumentException.class, call);
    }

    private static void dueOutside(String what, Call call) {
        dueThrow(what, IndexOutOfBoundsException.class, call);
    }

    /** ADDRESS, BASE, TOP, PERMISSIONS, TYPE and TAG of grant r. */
    private static void dueGrant(String what, GrantMath x, int r, int... want) {
        int[] got = new int[6];
        for (int i = 0; i < got.length; i++) {
            got[i] = x.part(r, i);
        }
        due(what, Arrays.toString(got), Arrays.toString(want));
    }

    private static String whole(GrantMath x) {
        StringBuilder all = new StringBuilder();
        for (int r = 0; r < 16; r++) {
            for (int what = 0; what < 6; what++) {
                all.append(x.part(r, what)).append(' ');
            }
        }
        return all.toString();
    }

    /** Grant 0 is 10..1000 with all permissions, 1 may seal and unseal types 5..69999, 2 is 0 sealed with 5. */
    private static GrantMath withSealed() {
        GrantMath x = new GrantMath();
        x.root(0, 10, 1000, 255);
        x.root(1, 5, 70000, SEAL | UNSEAL);
        due("seal of the start", x.seal(2, 0, 1), 0);
        return x;
    }

    /** A grant at an address, with bounds and permissions. */
    private static void place(GrantMath x, int r, int base, int top, int permissions, int address) {
        x.root(r, base, top, permissions);
        x.move(r, r, address - base);
    }

    private static void promise1NewObject() {
        GrantMath x = new GrantMath();
        for (int r = 0; r < 16; r++) {
            dueGrant("1: new grant " + r, x, r, 0, 0, 0, 0, 0, 0);
        }
        due("1: count of a new object", x.count(0, 0), 0);
        GrantMath y = new GrantMath();
        x.root(3, 1, 2, 3);
        dueGrant("1: objects are apart", y, 3, 0, 0, 0, 0, 0, 0);
    }

    private static void promise2Root() {
        GrantMath x = new GrantMath();
        x.root(0, 100, 200, 7);
        dueGrant("2: root", x, 0, 100, 100, 200, 7, 0, 1);
        x.root(15, 9, 9, 255);
        dueGrant("2: base is top, all permissions", x, 15, 9, 9, 9, 255, 0, 1);
        x.root(14, 0, -1, 0);
        dueGrant("2: bounds without sign", x, 14, 0, 0, -1, 0, 0, 1);
        x.root(13, Integer.MAX_VALUE, Integer.MIN_VALUE, 1);
        dueGrant("2: bounds about 2^31", x, 13, Integer.MAX_VALUE, Integer.MAX_VALUE, Integer.MIN_VALUE, 1, 0, 1);

        GrantMath y = withSealed();
        y.root(2, 1, 2, 3);
        dueGrant("2: root over a sealed one", y, 2, 1, 1, 2, 3, 0, 1);

        String before = whole(x);
        dueIllegal("2: base above top", () -> x.root(0, 2, 1, 0));
        dueIllegal("2: base above top without sign", () -> x.root(0, -1, 0, 0));
        dueIllegal("2: base above top, both high", () -> x.root(0, -1, -2, 0));
        dueIllegal("2: permissions 256", () -> x.root(0, 1, 2, 256));
        dueIllegal("2: permissions -1", () -> x.root(0, 1, 2, -1));
        for (int g : NO_GRANTS) {
            dueOutside("2: grant " + g, () -> x.root(g, 1, 2, 3));
            dueIllegal("2: bounds are looked at before grant " + g, () -> x.root(g, 2, 1, 3));
            dueIllegal("2: permissions are looked at before grant " + g, () -> x.root(g, 1, 2, 256));
        }
        due("2: a throw changes nothing", whole(x), before);
    }

    private static void promise3Number() {
        GrantMath x = withSealed();
        x.number(0, 7);
        dueGrant("3: number over a root", x, 0, 7, 0, 0, 0, 0, 0);
        x.number(2, -1);
        dueGrant("3: number over a sealed one", x, 2, -1, 0, 0, 0, 0, 0);
        x.number(15, Integer.MIN_VALUE);
        dueGrant("3: number over a new one", x, 15, Integer.MIN_VALUE, 0, 0, 0, 0, 0);
        String before = whole(x);
        for (int g : NO_GRANTS) {
            dueOutside("3: grant " + g, () -> x.number(g, 1));
        }
        due("3: a throw changes nothing", whole(x), before);
    }

    private static void promise4Move() {
        GrantMath x = withSealed();
        x.move(3, 0, 20);
        dueGrant("4: move", x, 3, 30, 10, 1000, 255, 0, 1);
        dueGrant("4: s stays", x, 0, 10, 10, 1000, 255, 0, 1);
        x.move(3, 3, -40);
        dueGrant("4: move of itself, out of bounds", x, 3, -10, 10, 1000, 255, 0, 1);
        x.move(3, 3, 11);
        dueGrant("4: move wraps", x, 3, 1, 10, 1000, 255, 0, 1);
        x.move(4, 2, 0);
        dueGrant("4: sealed, by 0", x, 4, 10, 10, 1000, 255, 5, 1);
        x.move(4, 2, 1);
        dueGrant("4: sealed, by 1", x, 4, 11, 10, 1000, 255, 5, 0);
        x.move(4, 4, -1);
        dueGrant("4: the tag does not come back", x, 4, 10, 10, 1000, 255, 5, 0);
        x.move(2, 2, -1);
        dueGrant("4: sealed, of itself", x, 2, 9, 10, 1000, 255, 5, 0);
        x.move(2, 0, 1);
        dueGrant("4: not sealed over a sealed one", x, 2, 11, 10, 1000, 255, 0, 1);
        x.number(5, 8);
        x.move(6, 5, 1);
        dueGrant("4: a number", x, 6, 9, 0, 0, 0, 0, 0);
        String before = whole(x);
        for (int g : NO_GRANTS) {
            dueOutside("4: r " + g, () -> x.move(g, 0, 1));
            dueOutside("4: s " + g, () -> x.move(0, g, 1));
        }
        due("4: a throw changes nothing", whole(x), before);
    }

    private static void promise5Narrow() {
        GrantMath x = new GrantMath();
        place(x, 0, 100, 200, 7, 120);
        due("5: inside", x.narrow(1, 0, 30), true);
        dueGrant("5: inside", x, 1, 120, 120, 150, 7, 0, 1);
        dueGrant("5: s stays", x, 0, 120, 100, 200, 7, 0, 1);
        due("5: to its top", x.narrow(1, 0, 80), true);
        due("5: beyond its top", x.narrow(1, 0, 81), false);
        dueGrant("5: beyond its top", x, 1, 120, 120, 201, 7, 0, 0);
        due("5: beyond 32 bits", x.narrow(1, 0, -1), false);
        dueGrant("5: beyond 32 bits", x, 1, 120, 120, 119, 7, 0, 0);
        due("5: beyond 32 bits, back at the address", x.narrow(1, 0, -120), false);
        dueGrant("5: beyond 32 bits, back at the address", x, 1, 120, 120, 0, 7, 0, 0);

        place(x, 0, 100, 200, 7, 100);
        due("5: address at base", x.narrow(1, 0, 100), true);
        dueGrant("5: address at base", x, 1, 100, 100, 200, 7, 0, 1);
        place(x, 0, 100, 200, 7, 99);
        due("5: address below base", x.narrow(1, 0, 1), false);
        dueGrant("5: address below base", x, 1, 99, 99, 100, 7, 0, 0);
        place(x, 0, 100, 200, 7, 200);
        due("5: address at top, of nothing", x.narrow(1, 0, 0), true);
        dueGrant("5: address at top, of nothing", x, 1, 200, 200, 200, 7, 0, 1);
        due("5: address at top, of one", x.narrow(1, 0, 1), false);
        place(x, 0, 100, 200, 7, 201);
        due("5: address above top", x.narrow(1, 0, 0), false);
        dueGrant("5: address above top", x, 1, 201, 201, 201, 7, 0, 0);

        x.root(2, 0, -1, 1);
        due("5: n without sign", x.narrow(3, 2, -1), true);
        dueGrant("5: n without sign", x, 3, 0, 0, -1, 1, 0, 1);
        place(x, 2, 0, -1, 1, 1);
        due("5: exactly 2^32", x.narrow(3, 2, -1), false);
        dueGrant("5: exactly 2^32", x, 3, 1, 1, 0, 1, 0, 0);
        due("5: of itself", x.narrow(2, 2, 8), true);
        dueGrant("5: of itself", x, 2, 1, 1, 9, 1, 0, 1);

        GrantMath y = withSealed();
        due("5: sealed", y.narrow(3, 2, 3), false);
        dueGrant("5: sealed", y, 3, 10, 10, 13, 255, 5, 0);
        y.number(4, 50);
        due("5: a number", y.narrow(5, 4, 0), false);
        dueGrant("5: a number", y, 5, 50, 50, 50, 0, 0, 0);
        y.number(4, 0);
        due("5: a number within its bounds", y.narrow(5, 4, 0), false);
        String before = whole(y);
        for (int g : NO_GRANTS) {
            dueOutside("5: r " + g, () -> y.narrow(g, 0, 1));
            dueOutside("5: s " + g, () -> y.narrow(0, g, 1));
        }
        due("5: a throw changes nothing", whole(y), before);
    }

    private static void promise6Restrict() {
        GrantMath x = withSealed();
        due("6: ordinary", x.restrict(3, 0, 5), true);
        dueGrant("6: ordinary", x, 3, 10, 10, 1000, 5, 0, 1);
        dueGrant("6: s stays", x, 0, 10, 10, 1000, 255, 0, 1);
        due("6: mask adds nothing", x.restrict(3, 3, 6), true);
        dueGrant("6: mask adds nothing", x, 3, 10, 10, 1000, 4, 0, 1);
        due("6: mask above the 8 bits", x.restrict(4, 0, -256), true);
        dueGrant("6: mask above the 8 bits", x, 4, 10, 10, 1000, 0, 0, 1);
        due("6: sealed, none lost", x.restrict(4, 2, -1), true);
        dueGrant("6: sealed, none lost", x, 4, 10, 10, 1000, 255, 5, 1);
        due("6: sealed, one lost", x.restrict(4, 2, 127), false);
        dueGrant("6: sealed, one lost", x, 4, 10, 10, 1000, 127, 5, 0);
        due("6: sealed, without tag, none lost", x.restrict(5, 4, 127), false);
        due("6: sealed over one that is not, one lost", x.restrict(10, 2, 254), false);
        due("6: not sealed over one that is, one lost", x.restrict(4, 0, 254), true);
        dueGrant("6: not sealed over one that is, one lost", x, 4, 10, 10, 1000, 254, 0, 1);
        x.seal(6, 3, 1);
        due("6: sealed, mask less than all but none lost", x.restrict(6, 6, 4), true);
        dueGrant("6: sealed, mask less than all but none lost", x, 6, 10, 10, 1000, 4, 5, 1);
        due("6: sealed, of itself, one lost", x.restrict(6, 6, 3), false);
        dueGrant("6: sealed, of itself, one lost", x, 6, 10, 10, 1000, 0, 5, 0);
        x.number(7, 50);
        due("6: a number", x.restrict(8, 7, 255), false);
        dueGrant("6: a number", x, 8, 50, 0, 0, 0, 0, 0);
        String before = whole(x);
        for (int g : NO_GRANTS) {
            dueOutside("6: r " + g, () -> x.restrict(g, 0, 1));
            dueOutside("6: s " + g, () -> x.restrict(0, g, 1));
        }
        due("6: a throw changes nothing", whole(x), before);
    }

    private static void dueSeal(String what, GrantMath x, int s, int t, int cause) {
        String before = whole(x);
        due(what, x.seal(9, s, t), cause);
        if (cause != 0) {
            due(what + ": nothing is changed", whole(x), before);
        }
    }

    private static void promise7Seal() {
        GrantMath x = withSealed();
        dueGrant("7: sealed", x, 2, 10, 10, 1000, 255, 5, 1);
        dueGrant("7: s stays", x, 0, 10, 10, 1000, 255, 0, 1);
        dueGrant("7: t stays", x, 1, 5, 5, 70000, 96, 0, 1);

        x.number(3, 5);
        dueSeal("7: s has no tag", x, 3, 1, 1);
        dueSeal("7: t has no tag", x, 0, 3, 1);
        dueSeal("7: a tag comes before a seal", x, 2, 3, 1);
        dueSeal("7: a tag of s comes before a seal of t", x, 3, 2, 1);
        dueSeal("7: s is sealed", x, 2, 1, 2);
        dueSeal("7: t is sealed", x, 0, 2, 2);
        x.restrict(4, 1, UNSEAL);
        dueSeal("7: t may not seal", x, 0, 4, 3);
        dueSeal("7: a seal comes before a permission", x, 2, 4, 2);
        x.move(4, 4, -1);
        dueSeal("7: a permission comes before bounds", x, 0, 4, 3);
        x.restrict(4, 1, SEAL);
        dueSeal("7: SEAL alone is enough", x, 0, 4, 0);
        x.root(4, 5, 70000, 255 - SEAL);
        dueSeal("7: all but SEAL", x, 0, 4, 3);

        place(x, 4, 5, 70000, SEAL, 4);
        dueSeal("7: address below base", x, 0, 4, 4);
        place(x, 4, 5, 10, SEAL, 10);
        dueSeal("7: address at top", x, 0, 4, 4);
        place(x, 4, 5, 10, SEAL, 9);
        dueSeal("7: address just below top", x, 0, 4, 0);
        due("7: its type", x.part(9, TYPE), 9);
        place(x, 4, 0, 70000, SEAL, 0);
        dueSeal("7: type 0", x, 0, 4, 4);
        place(x, 4, 0, 70000, SEAL, 1);
        dueSeal("7: type 1", x, 0, 4, 0);
        due("7: type 1", x.part(9, TYPE), 1);
        place(x, 4, 0, 70000, SEAL, 65535);
        dueSeal("7: type 65535", x, 0, 4, 0);
        due("7: type 65535", x.part(9, TYPE), 65535);
        place(x, 4, 0, 70000, SEAL, 65536);
        dueSeal("7: type 65536", x, 0, 4, 4);
        place(x, 4, 0, -1, SEAL, -2);
        dueSeal("7: type near 2^32", x, 0, 4, 4);

        promise7SealOfItself();
        String before = whole(x);
        for (int g : NO_GRANTS) {
            dueOutside("7: r " + g, () -> x.seal(g, 0, 1));
            dueOutside("7: s " + g, () -> x.seal(9, g, 1));
            dueOutside("7: t " + g, () -> x.seal(9, 0, g));
            dueOutside("7: r though there is a cause " + g, () -> x.seal(g, 3, 3));
        }
        due("7: a throw changes nothing", whole(x), before);
    }

    private static void promise7SealOfItself() {
        GrantMath x = withSealed();
        due("7: r is t", x.seal(1, 0, 1), 0);
        dueGrant("7: r is t", x, 1, 10, 10, 1000, 255, 5, 1);
        GrantMath y = withSealed();
        due("7: r is s", y.seal(0, 0, 1), 0);
        dueGrant("7: r is s", y, 0, 10, 10, 1000, 255, 5, 1);
        GrantMath z = withSealed();
        due("7: all are one", z.seal(1, 1, 1), 0);
        dueGrant("7: all are one", z, 1, 5, 5, 70000, 96, 5, 1);
    }

    private static void dueUnseal(String what, GrantMath x, int s, int t, int cause) {
        String before = whole(x);
        due(what, x.unseal(9, s, t), cause);
        if (cause != 0) {
            due(what + ": nothing is changed", whole(x), before);
        }
    }

    private static void promise8Unseal() {
        GrantMath x = withSealed();
        dueUnseal("8: opened", x, 2, 1, 0);
        dueGrant("8: opened", x, 9, 10, 10, 1000, 255, 0, 1);
        dueGrant("8: s stays", x, 2, 10, 10, 1000, 255, 5, 1);
        dueGrant("8: t stays", x, 1, 5, 5, 70000, 96, 0, 1);

        x.number(3, 5);
        x.move(10, 2, 1);
        dueUnseal("8: s has no tag", x, 10, 1, 1);
        dueUnseal("8: t has no tag", x, 2, 3, 1);
        dueUnseal("8: a tag comes before a seal", x, 0, 3, 1);
        dueUnseal("8: s is not sealed", x, 0, 1, 2);
        dueUnseal("8: t is sealed", x, 2, 2, 2);
        x.restrict(4, 1, SEAL);
        dueUnseal("8: t may not unseal", x, 2, 4, 3);
        dueUnseal("8: a seal comes before a permission", x, 0, 4, 2);
        x.move(4, 4, 1);
        dueUnseal("8: a permission comes before the type", x, 2, 4, 3);
        x.restrict(4, 1, UNSEAL);
        dueUnseal("8: UNSEAL alone is enough", x, 2, 4, 0);
        x.root(4, 5, 70000, 255 - UNSEAL);
        dueUnseal("8: all but UNSEAL", x, 2, 4, 3);
        place(x, 4, 0, 70000, UNSEAL, 6);
        dueUnseal("8: another type", x, 2, 4, 4);
        place(x, 4, 0, 5, UNSEAL, 5);
        dueUnseal("8: the type at top", x, 2, 4, 4);
        place(x, 4, 0, 6, UNSEAL, 5);
        dueUnseal("8: the type just below top", x, 2, 4, 0);
        place(x, 4, 6, 70, UNSEAL, 5);
        dueUnseal("8: the type below base", x, 2, 4, 4);

        promise8UnsealOfItself();
        String before = whole(x);
        for (int g : NO_GRANTS) {
            dueOutside("8: r " + g, () -> x.unseal(g, 2, 1));
            dueOutside("8: s " + g, () -> x.unseal(9, g, 1));
            dueOutside("8: t " + g, () -> x.unseal(9, 2, g));
            dueOutside("8: r though there is a cause " + g, () -> x.unseal(g, 3, 3));
        }
        due("8: a throw changes nothing", whole(x), before);
    }

    private static void promise8UnsealOfItself() {
        GrantMath x = withSealed();
        due("8: r is t", x.unseal(1, 2, 1), 0);
        dueGrant("8: r is t", x, 1, 10, 10, 1000, 255, 0, 1);
        GrantMath y = withSealed();
        due("8: r is s", y.unseal(2, 2, 1), 0);
        dueGrant("8: r is s", y, 2, 10, 10, 1000, 255, 0, 1);
    }

    private static void promise9Allows() {
        GrantMath x = withSealed();
        place(x, 3, 100, 200, 5, 150);
        String before = whole(x);
        due("9: all of it", x.allows(3, -50, 100, 5), 0);
        due("9: one octet more", x.allows(3, -50, 101, 5), 4);
        due("9: one place later", x.allows(3, -49, 100, 5), 4);
        due("9: one place before", x.allows(3, -51, 100, 5), 4);
        due("9: the last octet", x.allows(3, 49, 1, 1), 0);
        due("9: the octet at top", x.allows(3, 50, 1, 1), 4);
        due("9: nothing at base", x.allows(3, -50, 0, 0), 0);
        due("9: nothing below base", x.allows(3, -51, 0, 0), 4);
        due("9: nothing at top", x.allows(3, 50, 0, 0), 0);
        due("9: nothing above top", x.allows(3, 51, 0, 0), 4);
        due("9: a permission that is not there", x.allows(3, 0, 1, 2), 3);
        due("9: one of two is not there", x.allows(3, 0, 1, 6), 3);
        due("9: a permission comes before bounds", x.allows(3, 50, 1, 2), 3);
        due("9: a seal comes before a permission", x.allows(2, 0, 1, 256), 2);
        due("9: sealed", x.allows(2, 0, 1, 1), 2);
        due("9: no tag", x.allows(8, 0, 0, 0), 1);
        due("9: a tag comes before a permission", x.allows(8, 0, 1, 1), 1);
        due("9: bit 256", x.allows(0, 0, 1, 256), 3);
        due("9: the sign bit", x.allows(0, 0, 1, Integer.MIN_VALUE), 3);
        due("9: all 8 permissions", x.allows(0, 0, 1, 255), 0);
        due("9: it changes nothing", whole(x), before);

        x.move(4, 2, 1);
        due("9: a tag comes before a seal", x.allows(4, 0, 1, 1), 1);
        promise9AllowsAtTheEnds(x);

        dueIllegal("9: n -1", () -> x.allows(0, 0, -1, 0));
        dueIllegal("9: n 65537", () -> x.allows(0, 0, 65537, 0));
        dueIllegal("9: n is looked at before causes", () -> x.allows(8, 0, -1, 0));
        for (int g : NO_GRANTS) {
            dueOutside("9: r " + g, () -> x.allows(g, 0, 1, 1));
            dueIllegal("9: n is looked at before grant " + g, () -> x.allows(g, 0, 65537, 1));
        }
    }

    private static void promise9AllowsAtTheEnds(GrantMath x) {
        x.root(5, 0, -1, 1);
        due("9: n 65536", x.allows(5, 0, 65536, 1), 0);
        due("9: n 65536 to top", x.allows(5, -65537, 65536, 1), 0);
        due("9: n 65536 beyond top", x.allows(5, -65536, 65536, 1), 4);
        due("9: octets do not wrap", x.allows(5, -1, 2, 1), 4);
        due("9: nothing at the highest top", x.allows(5, -1, 0, 1), 0);
        place(x, 5, 0, -1, 1, -1);
        due("9: the beginning wraps up", x.allows(5, 1, 1, 1), 0);
        place(x, 5, -100, -1, 1, 1);
        due("9: the beginning wraps down", x.allows(5, -101, 99, 1), 0);
        place(x, 5, Integer.MAX_VALUE, Integer.MIN_VALUE + 1, 1, Integer.MAX_VALUE);
        due("9: about 2^31", x.allows(5, 0, 2, 1), 0);
        due("9: beyond 2^31", x.allows(5, 1, 2, 1), 4);
    }

    private static boolean isWithin(int base, int top, int permissions) {
        GrantMath x = new GrantMath();
        x.root(0, base, top, permissions);
        x.root(1, 100, 200, 6);
        return x.within(0, 1);
    }

    private static void promise10Within() {
        due("10: the same", isWithin(100, 200, 6), true);
        due("10: less of all", isWithin(101, 199, 2), true);
        due("10: base below", isWithin(99, 200, 6), false);
        due("10: top above", isWithin(100, 201, 6), false);
        due("10: top far above", isWithin(100, -1, 6), false);
        due("10: a permission more", isWithin(100, 200, 7), false);
        due("10: another permission", isWithin(100, 200, 1), false);
        due("10: nothing, at base", isWithin(100, 100, 0), true);
        due("10: nothing, below base", isWithin(50, 50, 0), false);
        due("10: nothing, above top", isWithin(201, 201, 0), false);

        GrantMath x = withSealed();
        due("10: of itself", x.within(0, 0), true);
        due("10: a sealed one", x.within(2, 0), true);
        due("10: in a sealed one", x.within(0, 2), true);
        x.move(3, 0, 5000);
        due("10: the address does not count", x.within(3, 0), true);
        x.number(4, 0);
        due("10: r has no tag", x.within(4, 0), false);
        x.root(5, 0, 0, 0);
        due("10: s has no tag", x.within(5, 4), false);
        due("10: both have no tag", x.within(4, 4), false);
        x.root(6, -100, -1, 0);
        x.root(7, 0, -1, 0);
        due("10: bounds without sign", x.within(6, 7), true);
        due("10: bounds without sign, the other way", x.within(7, 6), false);
        String before = whole(x);
        for (int g : NO_GRANTS) {
            dueOutside("10: r " + g, () -> x.within(g, 0));
            dueOutside("10: s " + g, () -> x.within(0, g));
            dueOutside("10: s though r has no tag " + g, () -> x.within(4, g));
        }
        due("10: it changes nothing", whole(x), before);
    }

    private static void promise11Part() {
        GrantMath x = new GrantMath();
        place(x, 0, 50000, 70001, 33, 60000);
        x.root(1, 4321, 4322, SEAL);
        x.seal(15, 0, 1);
        due("11: ADDRESS", x.part(15, ADDRESS), 60000);
        due("11: BASE", x.part(15, BASE), 50000);
        due("11: TOP", x.part(15, TOP), 70001);
        due("11: PERMISSIONS", x.part(15, PERMISSIONS), 33);
        due("11: TYPE", x.part(15, TYPE), 4321);
        due("11: TAG", x.part(15, TAG), 1);
        due("11: no TAG", x.part(2, TAG), 0);
        for (int what : new int[] {-1, 6, Integer.MIN_VALUE, Integer.MAX_VALUE}) {
            dueIllegal("11: what " + what, () -> x.part(0, what));
            dueIllegal("11: what is looked at before r " + what, () -> x.part(16, what));
        }
        for (int g : NO_GRANTS) {
            dueOutside("11: r " + g, () -> x.part(g, 0));
        }
    }

    private static void promise12Count() {
        GrantMath x = withSealed();
        String before = whole(x);
        due("12: not the sealed one", x.count(10, 1), 1);
        due("12: two", x.count(10, 96), 2);
        due("12: below base", x.count(9, 1), 0);
        due("12: just below top", x.count(999, 1), 1);
        due("12: at top", x.count(1000, 1), 0);
        due("12: one permission is not there", x.count(10, 97), 1);
        due("12: no permission asked", x.count(5, 0), 1);
        due("12: all 8 permissions", x.count(10, 255), 1);
        due("12: bit 256", x.count(10, 256), 0);
        due("12: all bits", x.count(10, -1), 0);
        due("12: it changes nothing", whole(x), before);

        x.root(3, 7, 7, 255);
        due("12: an empty grant", x.count(7, 128), 0);
        x.move(4, 0, 5000);
        due("12: the address does not count", x.count(10, 1), 2);
        x.move(5, 2, 1);
        x.narrow(5, 5, 1);
        due("12: no tag", x.count(11, 1), 2);

        GrantMath y = new GrantMath();
        for (int r = 0; r < 16; r++) {
            y.root(r, -100, -1, 4);
        }
        due("12: all sixteen, without sign", y.count(-50, 4), 16);
        due("12: the last place", y.count(-2, 4), 16);
        due("12: the highest place", y.count(-1, 4), 0);
        due("12: a low place", y.count(50, 4), 0);
        y.narrow(0, 0, -1);
        due("12: a lost tag", y.count(-50, 4), 15);
        y.number(15, -50);
        due("12: a number", y.count(-50, 4), 14);
    }

    public static void main(String[] args) {
        promise1NewObject();
        promise2Root();
        promise3Number();
        promise4Move();
        promise5Narrow();
        promise6Restrict();
        promise7Seal();
        promise8Unseal();
        promise9Allows();
        promise10Within();
        promise11Part();
        promise12Count();
        System.out.println(wrong == 0 ? "all promises hold" : wrong + " answers are not as due");
        if (wrong != 0) {
            System.exit(1);
        }
    }
}
