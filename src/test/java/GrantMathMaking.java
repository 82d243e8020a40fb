import java.util.Arrays;

/** The sentences of promises 1 to 6, each with a test of its own: grants are made, moved, narrowed, restricted. */
public final class GrantMathMaking extends Sentences {
    // Grants of every kind, each part unlike the others: open or sealed, with a tag or without.
    private static final int[][] KINDS = {
        {150, 100, 200, 7, 0, 1},
        {150, 100, 200, 7, 0, 0},
        {150, 100, 200, 7, 9, 1},
        {150, 100, 200, 7, 9, 0},
        {0, 0, 0, 0, 0, 0},
        {-5, 30, HIGHEST, 255, 65535, 1}};

    private static final int[] STEPS = {1, -1, 2, 50, Integer.MIN_VALUE, Integer.MAX_VALUE};

    private static String told(int[] parts) {
        return Arrays.toString(parts);
    }

    private static void newObject() {
        GrantMath x = new GrantMath();
        for (int r = 0; r < 16; r++) {
            dueGrant("grant " + r + " of a new object", x, r, 0, 0, 0, 0, 0, 0);
        }
        due("count(0, 0) of a new object", x.count(0, 0), 0);
    }

    private static void newObjectsAreApart() {
        GrantMath x = new GrantMath();
        GrantMath y = new GrantMath();
        x.root(3, 1, 2, 3);
        dueGrant("the other object's grant 3", y, 3, 0, 0, 0, 0, 0, 0);
        dueGrant("a later object's grant 3", new GrantMath(), 3, 0, 0, 0, 0, 0, 0);
        dueGrant("its own grant 3", x, 3, 1, 1, 2, 3, 0, 1);
    }

    private static void rootHasATagAndThese() {
        for (int[] before : KINDS) {
            GrantMath x = with(0, before);
            make(x, 1, before);
            x.root(0, 300, 400, 96);
            dueGrant("root over " + told(before), x, 0, 300, 300, 400, 96, 0, 1);
            dueGrant("the grant beside it", x, 1, before);
        }
    }

    private static void rootAddressIsBase() {
        GrantMath x = with(0, 150, 100, 200, 7, 0, 1);
        x.root(0, 100, 200, 7);
        due("the address after root over a moved one", x.part(0, ADDRESS), 100);
        x.root(0, HIGHEST, HIGHEST, 7);
        due("the address of a root at the highest place", x.part(0, ADDRESS), HIGHEST);
    }

    private static void rootTypeIs0() {
        GrantMath x = with(0, 150, 100, 200, 7, 9, 1);
        x.root(0, 100, 200, 7);
        due("the type after root over a sealed one", x.part(0, TYPE), 0);
        due("allows after root over a sealed one", x.allows(0, 0, 1, 1), 0);
    }

    private static void baseIsAboveTop() {
        int[][] illegal = {{1, 0}, {201, 200}, {HIGHEST, 0}, {HIGHEST, -2}, {ABOVE_MIDDLE, MIDDLE}, {-1, 1}};
        for (int[] bounds : illegal) {
            GrantMath x = with(0, 150, 100, 200, 7, 9, 1);
            dueIllegal("root with bounds " + told(bounds), () -> x.root(0, bounds[0], bounds[1], 1));
            dueGrant("the grant that root refused", x, 0, 150, 100, 200, 7, 9, 1);
        }
        int[][] legal = {{0, 0}, {200, 200}, {199, 200}, {0, HIGHEST}, {-2, HIGHEST}, {HIGHEST, HIGHEST},
            {MIDDLE, ABOVE_MIDDLE}, {1, -1}};
        for (int[] bounds : legal) {
            GrantMath x = new GrantMath();
            x.root(0, bounds[0], bounds[1], 1);
            dueGrant("root with bounds " + told(bounds), x, 0, bounds[0], bounds[0], bounds[1], 1, 0, 1);
        }
    }

    private static void permissionsAreNot0To255() {
        for (int permissions : new int[] {-1, 256, 257, 511, -255, -256, Integer.MIN_VALUE, Integer.MAX_VALUE}) {
            GrantMath x = with(0, 150, 100, 200, 7, 9, 1);
            dueIllegal("root with permissions " + permissions, () -> x.root(0, 1, 2, permissions));
            dueGrant("the grant that root refused", x, 0, 150, 100, 200, 7, 9, 1);
        }
        for (int permissions : new int[] {0, 1, 254, 255}) {
            GrantMath x = new GrantMath();
            x.root(0, 1, 2, permissions);
            due("root with permissions " + permissions, x.part(0, PERMISSIONS), permissions);
        }
    }

    /** Grants 0 and 1 may seal, unseal and be sealed; 2 is sealed with 7; 3 is a number, so that there is a cause. */
    private static GrantMath forAllCalls() {
        GrantMath x = with(0, 10, 10, 20, 255, 0, 1);
        make(x, 1, 7, 5, 10, 255, 0, 1);
        make(x, 2, 10, 10, 20, 255, 7, 1);
        make(x, 3, 8, 0, 0, 0, 0, 0);
        return x;
    }

    private static void noSuchR() {
        for (int g : NO_GRANTS) {
            GrantMath x = forAllCalls();
            String before = whole(x);
            dueOutside("root of r " + g, () -> x.root(g, 1, 2, 3));
            dueOutside("number of r " + g, () -> x.number(g, 1));
            dueOutside("move to r " + g, () -> x.move(g, 0, 1));
            dueOutside("narrow to r " + g, () -> x.narrow(g, 0, 1));
            dueOutside("restrict to r " + g, () -> x.restrict(g, 0, 1));
            dueOutside("seal to r " + g, () -> x.seal(g, 0, 1));
            dueOutside("unseal to r " + g, () -> x.unseal(g, 2, 1));
            dueOutside("allows of r " + g, () -> x.allows(g, 0, 1, 1));
            dueOutside("within of r " + g, () -> x.within(g, 0));
            dueOutside("part of r " + g, () -> x.part(g, 0));
            due("all after the calls of r " + g, whole(x), before);
        }
    }

    private static void noSuchS() {
        for (int g : NO_GRANTS) {
            GrantMath x = forAllCalls();
            String before = whole(x);
            dueOutside("move of s " + g, () -> x.move(0, g, 1));
            dueOutside("narrow of s " + g, () -> x.narrow(0, g, 1));
            dueOutside("restrict of s " + g, () -> x.restrict(0, g, 1));
            dueOutside("seal of s " + g, () -> x.seal(4, g, 1));
            dueOutside("unseal of s " + g, () -> x.unseal(4, g, 1));
            dueOutside("within of s " + g, () -> x.within(0, g));
            dueOutside("within of s, where r has no tag, " + g, () -> x.within(3, g));
            due("all after the calls of s " + g, whole(x), before);
        }
    }

    private static void noSuchT() {
        for (int g : NO_GRANTS) {
            GrantMath x = forAllCalls();
            String before = whole(x);
            dueOutside("seal with t " + g, () -> x.seal(4, 0, g));
            dueOutside("unseal with t " + g, () -> x.unseal(4, 2, g));
            due("all after the calls of t " + g, whole(x), before);
        }
    }

    // Read so: a grant that is not there is refused even where there would be a cause.
    private static void noSuchGrantThoughThereIsACause() {
        for (int g : NO_GRANTS) {
            GrantMath x = forAllCalls();
            String before = whole(x);
            dueOutside("seal to r with a cause " + g, () -> x.seal(g, 3, 3));
            dueOutside("seal with t and s without tag " + g, () -> x.seal(4, 3, g));
            dueOutside("seal of s and t without tag " + g, () -> x.seal(4, g, 3));
            dueOutside("unseal to r with a cause " + g, () -> x.unseal(g, 3, 3));
            dueOutside("unseal with t and s without tag " + g, () -> x.unseal(4, 3, g));
            dueOutside("unseal of s and t without tag " + g, () -> x.unseal(4, g, 3));
            due("all after the calls " + g, whole(x), before);
        }
    }

    private static void grantIsLookedAtLast() {
        for (int g : NO_GRANTS) {
            GrantMath x = new GrantMath();
            dueIllegal("root with base above top of " + g, () -> x.root(g, 2, 1, 3));
            dueIllegal("root with permissions 256 of " + g, () -> x.root(g, 1, 2, 256));
            dueIllegal("root with permissions -1 of " + g, () -> x.root(g, 1, 2, -1));
            dueIllegal("allows with n -1 of " + g, () -> x.allows(g, 0, -1, 1));
            dueIllegal("allows with n 65537 of " + g, () -> x.allows(g, 0, 65537, 1));
            dueIllegal("part -1 of " + g, () -> x.part(g, -1));
            dueIllegal("part 6 of " + g, () -> x.part(g, 6));
        }
    }

    private static void numberAlone() {
        for (int v : new int[] {0, 1, 7, 65536, MIDDLE, ABOVE_MIDDLE, HIGHEST}) {
            for (int[] before : KINDS) {
                GrantMath x = with(0, before);
                make(x, 1, before);
                x.number(0, v);
                dueGrant("number " + v + " over " + told(before), x, 0, v, 0, 0, 0, 0, 0);
                dueGrant("the grant beside it", x, 1, before);
            }
        }
    }

    private static void movedIsWhole() {
        for (int[] s : KINDS) {
            for (int[] r : KINDS) {
                GrantMath x = with(0, s);
                make(x, 1, r);
                x.move(1, 0, 0);
                dueGrant("move by 0 over " + told(r), x, 1, s);
                dueGrant("s of that move", x, 0, s);
            }
            GrantMath y = with(0, s);
            y.move(0, 0, 0);
            dueGrant("move by 0 of itself", y, 0, s);
        }
    }

    private static void addressIsNMore() {
        int[][] due = {{150, 20, 170}, {150, -20, 130}, {150, 0, 150}, {150, -151, HIGHEST}, {HIGHEST, 1, 0},
            {HIGHEST, 150, 149}, {0, -1, HIGHEST}, {MIDDLE, 1, ABOVE_MIDDLE}, {ABOVE_MIDDLE, -1, MIDDLE},
            {5, Integer.MIN_VALUE, ABOVE_MIDDLE + 5}, {ABOVE_MIDDLE, Integer.MIN_VALUE, 0}};
        for (int[] d : due) {
            GrantMath x = with(0, d[0], 100, 200, 7, 0, 1);
            x.move(1, 0, d[1]);
            dueGrant("move from " + d[0] + " by " + d[1], x, 1, d[2], 100, 200, 7, 0, 1);
            dueGrant("s of that move", x, 0, d[0], 100, 200, 7, 0, 1);
            x.move(0, 0, d[1]);
            dueGrant("move of itself from " + d[0] + " by " + d[1], x, 0, d[2], 100, 200, 7, 0, 1);
        }
    }

    private static void tagIsGoneIfSealedAndMoved() {
        for (int n : STEPS) {
            GrantMath x = with(0, 150, 100, 200, 7, 9, 1);
            x.move(1, 0, n);
            dueGrant("move of a sealed one by " + n, x, 1, 150 + n, 100, 200, 7, 9, 0);
            dueGrant("s of that move", x, 0, 150, 100, 200, 7, 9, 1);
            x.move(0, 0, n);
            dueGrant("move of a sealed one itself by " + n, x, 0, 150 + n, 100, 200, 7, 9, 0);
            x.move(0, 0, -n);
            dueGrant("move back of a sealed one by " + n, x, 0, 150, 100, 200, 7, 9, 0);
        }
    }

    private static void tagStaysIfSealedAndNotMoved() {
        GrantMath x = with(0, 150, 100, 200, 7, 9, 1);
        x.move(1, 0, 0);
        dueGrant("move of a sealed one by 0", x, 1, 150, 100, 200, 7, 9, 1);
        x.move(0, 0, 0);
        dueGrant("move of a sealed one itself by 0", x, 0, 150, 100, 200, 7, 9, 1);
    }

    private static void tagStaysIfMovedOpen() {
        for (int n : STEPS) {
            // It is s that counts, not the sealed one that r was.
            GrantMath x = with(0, 150, 100, 200, 7, 0, 1);
            make(x, 1, 150, 100, 200, 7, 9, 1);
            x.move(1, 0, n);
            dueGrant("move of an open one by " + n, x, 1, 150 + n, 100, 200, 7, 0, 1);
        }
    }

    private static void moveMakesNoTag() {
        for (int n : STEPS) {
            GrantMath x = with(0, 150, 100, 200, 7, 0, 0);
            make(x, 1, 150, 100, 200, 7, 0, 1);
            x.move(1, 0, n);
            dueGrant("move without tag by " + n, x, 1, 150 + n, 100, 200, 7, 0, 0);
        }
    }

    /** A grant r that is sealed where s is open, and open where it is sealed: it is s that counts. */
    private static void makeUnlike(GrantMath x, int r, int[] s) {
        make(x, r, 52, 51, 53, 255, s[TYPE] == 0 ? 55 : 0, 1);
    }

    private static void dueNarrow(String what, int[] s, int n, int top, boolean tag) {
        int[] want = {s[ADDRESS], s[ADDRESS], top, s[PERMISSIONS], s[TYPE], tag ? 1 : 0};
        GrantMath x = with(0, s);
        makeUnlike(x, 1, s);
        due("narrow " + what, x.narrow(1, 0, n), tag);
        dueGrant("r of narrow " + what, x, 1, want);
        dueGrant("s of narrow " + what, x, 0, s);
        due("narrow of itself " + what, x.narrow(0, 0, n), tag);
        dueGrant("narrow of itself " + what, x, 0, want);
    }

    private static int[] at(int address) {
        return new int[] {address, 100, 200, 7, 0, 1};
    }

    private static void baseIsAddressAndTopIsNAbove() {
        dueNarrow("inside", at(120), 30, 150, true);
        dueNarrow("to one place", at(120), 1, 121, true);
        dueNarrow("to nothing", at(120), 0, 120, true);
        dueNarrow("to all", at(100), 100, 200, true);
        dueNarrow("of an empty one to nothing", new int[] {9, 9, 9, 7, 0, 1}, 0, 9, true);
        dueNarrow("of an empty one to one place", new int[] {9, 9, 9, 7, 0, 1}, 1, 10, false);
    }

    private static void nIsWithoutSign() {
        dueNarrow("by 2^31", new int[] {0, 0, HIGHEST, 7, 0, 1}, ABOVE_MIDDLE, ABOVE_MIDDLE, true);
        dueNarrow("by 2^32 - 1", new int[] {0, 0, HIGHEST, 7, 0, 1}, -1, HIGHEST, true);
        dueNarrow("by 2^32 - 1 of the lower half", new int[] {0, 0, MIDDLE, 7, 0, 1}, -1, HIGHEST, false);
        dueNarrow("by 2^32 - 3 from 2", new int[] {2, 0, HIGHEST, 7, 0, 1}, -3, HIGHEST, true);
    }

    private static void tagIsGoneIfNarrowedSealed() {
        dueNarrow("of a sealed one", new int[] {120, 100, 200, 7, 9, 1}, 30, 150, false);
        dueNarrow("of a sealed one to nothing", new int[] {120, 100, 200, 7, 9, 1}, 0, 120, false);
        dueNarrow("of a sealed one to all", new int[] {100, 100, 200, 7, 9, 1}, 100, 200, false);
        dueNarrow("of one sealed with 65535", new int[] {120, 100, 200, 7, 65535, 1}, 30, 150, false);
    }

    private static void addressIsBelowBase() {
        dueNarrow("from just below base", at(99), 1, 100, false);
        dueNarrow("from just below base to nothing", at(99), 0, 99, false);
        dueNarrow("from just below base to all", at(99), 101, 200, false);
        dueNarrow("from place 0", at(0), 150, 150, false);
        dueNarrow("from base", at(100), 1, 101, true);
        dueNarrow("from base to nothing", at(100), 0, 100, true);
    }

    private static void addressIsAboveTop() {
        dueNarrow("from just above top to nothing", at(201), 0, 201, false);
        dueNarrow("from the highest place to nothing", at(HIGHEST), 0, HIGHEST, false);
        dueNarrow("from above top round to inside", at(201), -51, 150, false);
        dueNarrow("from top to nothing", at(200), 0, 200, true);
        dueNarrow("from just below top to nothing", at(199), 0, 199, true);
    }

    private static void newTopIsAboveTop() {
        dueNarrow("to just below top", at(120), 79, 199, true);
        dueNarrow("to top", at(120), 80, 200, true);
        dueNarrow("to just above top", at(120), 81, 201, false);
        dueNarrow("from top by one", at(200), 1, 201, false);
        dueNarrow("to 2^32 - 1", at(120), -121, HIGHEST, false);
    }

    private static void newTopIsBeyond32Bits() {
        dueNarrow("to 2^32", at(120), -120, 0, false);
        dueNarrow("to 2^32 + 99", at(120), -21, 99, false);
        dueNarrow("to 2^32 + 119", at(120), -1, 119, false);
        dueNarrow("to 2^32 of all places", new int[] {1, 0, HIGHEST, 7, 0, 1}, -1, 0, false);
        dueNarrow("to 2^32 + 150 of high places", new int[] {-50, -100, -1, 7, 0, 1}, 200, 150, false);
        dueNarrow("to 2^33 - 2", new int[] {-1, 0, HIGHEST, 7, 0, 1}, -1, -2, false);
        dueNarrow("to 2^32 - 1 of high places", new int[] {-50, -100, -1, 7, 0, 1}, 49, HIGHEST, true);
    }

    private static void narrowSaysWhetherThereIsATag() {
        dueNarrow("without tag", new int[] {120, 100, 200, 7, 0, 0}, 30, 150, false);
        dueNarrow("without tag to nothing", new int[] {0, 0, 0, 0, 0, 0}, 0, 0, false);
        dueNarrow("of a sealed one without tag", new int[] {120, 100, 200, 7, 9, 0}, 30, 150, false);
        dueNarrow("with tag", at(120), 30, 150, true);
    }

    private static void dueRestrict(String what, int[] s, int mask, int permissions, boolean tag) {
        int[] want = {s[ADDRESS], s[BASE], s[TOP], permissions, s[TYPE], tag ? 1 : 0};
        GrantMath x = with(0, s);
        makeUnlike(x, 1, s);
        due("restrict " + what, x.restrict(1, 0, mask), tag);
        dueGrant("r of restrict " + what, x, 1, want);
        dueGrant("s of restrict " + what, x, 0, s);
        due("restrict of itself " + what, x.restrict(0, 0, mask), tag);
        dueGrant("restrict of itself " + what, x, 0, want);
    }

    private static int[] having(int permissions, int type, int tag) {
        return new int[] {150, 100, 200, permissions, type, tag};
    }

    private static void permissionsThatAreInMask() {
        dueRestrict("255 by 5", having(255, 0, 1), 5, 5, true);
        dueRestrict("5 by 6", having(5, 0, 1), 6, 4, true);
        dueRestrict("5 by 2", having(5, 0, 1), 2, 0, true);
        dueRestrict("0 by 255", having(0, 0, 1), 255, 0, true);
        dueRestrict("255 by 0", having(255, 0, 1), 0, 0, true);
        dueRestrict("255 by 255", having(255, 0, 1), 255, 255, true);
        dueRestrict("128 by 127", having(128, 0, 1), 127, 0, true);
    }

    private static void bitsOfMaskAboveThe8() {
        dueRestrict("165 by all bits", having(165, 0, 1), -1, 165, true);
        dueRestrict("255 by all bits above", having(255, 0, 1), -256, 0, true);
        dueRestrict("255 by 256", having(255, 0, 1), 256, 0, true);
        dueRestrict("255 by the highest bit and 1", having(255, 0, 1), Integer.MIN_VALUE | 1, 1, true);
    }

    private static void tagIsGoneIfSealedAndOneIsLost() {
        for (int bit = 0; bit < 8; bit++) {
            dueRestrict("sealed, all but bit " + bit, having(255, 9, 1), ~(1 << bit), 255 - (1 << bit), false);
        }
        dueRestrict("sealed, 7 by 3", having(7, 9, 1), 3, 3, false);
        dueRestrict("sealed, 1 by 0", having(1, 9, 1), 0, 0, false);
        dueRestrict("sealed, 1 by 254", having(1, 65535, 1), 254, 0, false);
    }

    private static void tagStaysIfNoneIsLost() {
        dueRestrict("sealed, 7 by 7", having(7, 9, 1), 7, 7, true);
        dueRestrict("sealed, 7 by 255", having(7, 9, 1), 255, 7, true);
        dueRestrict("sealed, 7 by 15", having(7, 9, 1), 15, 7, true);
        dueRestrict("sealed, 255 by all bits", having(255, 9, 1), -1, 255, true);
        dueRestrict("sealed, 0 by 0", having(0, 9, 1), 0, 0, true);
    }

    private static void tagStaysIfRestrictedOpen() {
        dueRestrict("open, 7 by 3", having(7, 0, 1), 3, 3, true);
        dueRestrict("open, 1 by 0", having(1, 0, 1), 0, 0, true);
    }

    private static void restrictSaysWhetherThereIsATag() {
        dueRestrict("without tag, none lost", having(7, 0, 0), 7, 7, false);
        dueRestrict("without tag, one lost", having(7, 0, 0), 3, 3, false);
        dueRestrict("sealed, without tag, none lost", having(7, 9, 0), 7, 7, false);
        dueRestrict("sealed, without tag, one lost", having(7, 9, 0), 3, 3, false);
        dueRestrict("with tag", having(7, 0, 1), 3, 3, true);
    }

    private static void promises1To3() {
        sentence("Promise 1", "As said above", GrantMathMaking::newObject);
        sentence("Promise 1", "A new object", GrantMathMaking::newObjectsAreApart);
        sentence("Promise 2", "A GRANT has a TAG, and these", GrantMathMaking::rootHasATagAndThese);
        sentence("Promise 2", "ADDRESS is BASE", GrantMathMaking::rootAddressIsBase);
        sentence("Promise 2", "TYPE 0", GrantMathMaking::rootTypeIs0);
        sentence("Promise 2", "base is above top", GrantMathMaking::baseIsAboveTop);
        sentence("Promise 2", "permissions are not 0..255", GrantMathMaking::permissionsAreNot0To255);
        sentence("Promise 2", "there is no such GRANT (here and below, for r", GrantMathMaking::noSuchR);
        sentence("Promise 2", "there is no such GRANT (for s", GrantMathMaking::noSuchS);
        sentence("Promise 2", "there is no such GRANT (for t", GrantMathMaking::noSuchT);
        sentence("Promise 2", "there is no such GRANT, and a CAUSE",
                GrantMathMaking::noSuchGrantThoughThereIsACause);
        sentence("Promise 2", "looked at last", GrantMathMaking::grantIsLookedAtLast);
        sentence("Promise 3", "A GRANT is a number alone: ADDRESS v, all else 0", GrantMathMaking::numberAlone);
    }

    private static void promise4() {
        sentence("Promise 4", "GRANT r is s, whole", GrantMathMaking::movedIsWhole);
        sentence("Promise 4", "with an ADDRESS that is n more", GrantMathMaking::addressIsNMore);
        sentence("Promise 4", "the TAG is gone if s is SEALED and n is not 0",
                GrantMathMaking::tagIsGoneIfSealedAndMoved);
        sentence("Promise 4", "the TAG is gone if n is not 0: not if it is 0",
                GrantMathMaking::tagStaysIfSealedAndNotMoved);
        sentence("Promise 4", "the TAG is gone if s is SEALED: not if it is open",
                GrantMathMaking::tagStaysIfMovedOpen);
        sentence("Promise 4", "GRANT r is s, without a TAG too", GrantMathMaking::moveMakesNoTag);
    }

    private static void promise5() {
        sentence("Promise 5", "GRANT r is s with BASE its ADDRESS and TOP n above that",
                GrantMathMaking::baseIsAddressAndTopIsNAbove);
        sentence("Promise 5", "n (without sign)", GrantMathMaking::nIsWithoutSign);
        sentence("Promise 5", "the TAG is gone if s is SEALED", GrantMathMaking::tagIsGoneIfNarrowedSealed);
        sentence("Promise 5", "its ADDRESS is below its BASE", GrantMathMaking::addressIsBelowBase);
        sentence("Promise 5", "or above its TOP", GrantMathMaking::addressIsAboveTop);
        sentence("Promise 5", "or that TOP is above its TOP", GrantMathMaking::newTopIsAboveTop);
        sentence("Promise 5", "or beyond 32 bits; its lowest 32 are TOP then",
                GrantMathMaking::newTopIsBeyond32Bits);
        sentence("Promise 5", "Whether r has a TAG", GrantMathMaking::narrowSaysWhetherThereIsATag);
    }

    private static void promise6() {
        sentence("Promise 6", "GRANT r is s with those of its PERMISSIONS that are in mask",
                GrantMathMaking::permissionsThatAreInMask);
        sentence("Promise 6", "that are in mask: bits above the 8 are nothing",
                GrantMathMaking::bitsOfMaskAboveThe8);
        sentence("Promise 6", "the TAG is gone if s is SEALED and one is lost",
                GrantMathMaking::tagIsGoneIfSealedAndOneIsLost);
        sentence("Promise 6", "the TAG is gone if one is lost: not if none is",
                GrantMathMaking::tagStaysIfNoneIsLost);
        sentence("Promise 6", "the TAG is gone if s is SEALED: not if it is open",
                GrantMathMaking::tagStaysIfRestrictedOpen);
        sentence("Promise 6", "Whether r has a TAG", GrantMathMaking::restrictSaysWhetherThereIsATag);
    }

    public static void main(String[] args) {
        promises1To3();
        promise4();
        promise5();
        promise6();
        end();
    }
}
