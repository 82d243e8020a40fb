/** The sentences of the document's "What it is" and "Terms", each with a test of its own. */
public final class GrantMathTerms extends Sentences {
    private static final int NONE = 0;
    private static final int OF_S = 1;
    private static final int OF_T = 2;
    private static final int OF_BOTH = 3;

    private static void the512thCall() {
        GrantMath x = new GrantMath();
        for (int call = 1; call < 512; call++) {
            x.move(0, 0, 1);
        }
        due("part(0, 0) as the 512th call", x.part(0, ADDRESS), 511);
    }

    private interface Call {
        Object on(GrantMath x);
    }

    /** One call again and again, with the same answer each time, until the object has had its 512 calls. */
    private static void due512Times(String what, Object want, Call call) {
        GrantMath x = new GrantMath();
        x.root(0, 1, 2, SEAL | UNSEAL);
        x.seal(1, 0, 0);
        int right = 0;
        for (int used = 2; used < 512; used++) {
            if (call.on(x).equals(want)) {
                right++;
            }
        }
        due("how often " + what + " answered " + want, right, 510);
    }

    private static void allCallsToThe512th() {
        due512Times("narrow", true, x -> x.narrow(2, 0, 1));
        due512Times("restrict", true, x -> x.restrict(2, 0, SEAL));
        due512Times("seal", 0, x -> x.seal(2, 0, 0));
        due512Times("unseal", 0, x -> x.unseal(2, 1, 0));
        due512Times("allows", 0, x -> x.allows(0, 0, 1, SEAL));
        due512Times("within", true, x -> x.within(1, 0));
        due512Times("part", 1, x -> x.part(0, BASE));
        due512Times("count", 1, x -> x.count(1, SEAL));
    }

    private static void sixteenGrants() {
        GrantMath x = new GrantMath();
        for (int r = 0; r < 16; r++) {
            x.root(r, 100 + r, 200 + r, r);
        }
        for (int r = 0; r < 16; r++) {
            dueGrant("grant " + r + " of sixteen", x, r, 100 + r, 100 + r, 200 + r, r, 0, 1);
        }
        dueOutside("part(-1, 0)", () -> x.part(-1, 0));
        dueOutside("part(16, 0)", () -> x.part(16, 0));
    }

    private static void addressWithoutSign() {
        GrantMath x = with(0, ABOVE_MIDDLE, MIDDLE, ABOVE_MIDDLE + 1, 1, 0, 1);
        due("allows at address 2^31 above base 2^31 - 1", x.allows(0, 0, 1, 1), 0);
        due("narrow at address 2^31 above base 2^31 - 1", x.narrow(1, 0, 1), true);
        GrantMath y = with(0, MIDDLE, ABOVE_MIDDLE, ABOVE_MIDDLE + 1, 1, 0, 1);
        due("allows at address 2^31 - 1 below base 2^31", y.allows(0, 0, 1, 1), 4);
        due("narrow at address 2^31 - 1 below base 2^31", y.narrow(1, 0, 1), false);
        GrantMath z = with(0, ABOVE_MIDDLE, 0, MIDDLE, 1, 0, 1);
        due("allows of nothing at address 2^31 above top 2^31 - 1", z.allows(0, 0, 0, 1), 4);
        due("narrow to nothing at address 2^31 above top 2^31 - 1", z.narrow(1, 0, 0), false);
    }

    private static void baseWithoutSign() {
        GrantMath x = new GrantMath();
        x.root(0, MIDDLE, HIGHEST, 1);
        x.root(1, ABOVE_MIDDLE, HIGHEST, 1);
        dueGrant("root with base 2^31", x, 1, ABOVE_MIDDLE, ABOVE_MIDDLE, HIGHEST, 1, 0, 1);
        due("base 2^31 is not below 2^31 - 1", x.within(1, 0), true);
        due("base 2^31 - 1 is below 2^31", x.within(0, 1), false);
        due("both hold 2^31", x.count(ABOVE_MIDDLE, 1), 2);
        due("one holds 2^31 - 1", x.count(MIDDLE, 1), 1);
    }

    private static void topWithoutSign() {
        GrantMath x = new GrantMath();
        x.root(0, 0, MIDDLE, 1);
        x.root(1, 0, ABOVE_MIDDLE, 1);
        dueGrant("root with top 2^31", x, 1, 0, 0, ABOVE_MIDDLE, 1, 0, 1);
        due("top 2^31 - 1 is not above 2^31", x.within(0, 1), true);
        due("top 2^31 is above 2^31 - 1", x.within(1, 0), false);
        due("one holds 2^31 - 1", x.count(MIDDLE, 1), 1);
        due("none holds 2^31", x.count(ABOVE_MIDDLE, 1), 0);
    }

    private static void eightPermissions() {
        for (int permissions = 0; permissions < 256; permissions++) {
            GrantMath x = new GrantMath();
            x.root(0, 1, 2, permissions);
            due("part(0, 3) after root with " + permissions, x.part(0, PERMISSIONS), permissions);
            due("allows of all of " + permissions, x.allows(0, 0, 1, permissions), 0);
            if (permissions != 255) {
                due("allows of all beside " + permissions, x.allows(0, 0, 1, 255 - permissions), 3);
            }
        }
    }

    private static void typesTo65535() {
        for (int type : new int[] {1, 2, 255, 256, 32767, 32768, 65534, 65535}) {
            GrantMath x = new GrantMath();
            x.root(0, 10, 20, 1);
            x.root(1, type, type + 1, SEAL);
            due("seal with type " + type, x.seal(2, 0, 1), 0);
            due("part(2, 4) of type " + type, x.part(2, TYPE), type);
        }
    }

    private static void anotherTypeThan0IsSealed() {
        due("allows with type 0", with(0, 10, 10, 20, 1, 0, 1).allows(0, 0, 1, 1), 0);
        for (int type : new int[] {1, 2, 255, 256, 32767, 32768, 65534, 65535}) {
            due("allows with type " + type, with(0, 10, 10, 20, 1, type, 1).allows(0, 0, 1, 1), 2);
        }
    }

    private static void perhapsATag() {
        GrantMath x = new GrantMath();
        x.root(0, 0, 0, 0);
        x.number(1, 0);
        due("the tag of a root", x.part(0, TAG), 1);
        due("the tag of a number", x.part(1, TAG), 0);
    }

    private static void all0AtFirst() {
        GrantMath x = new GrantMath();
        for (int r = 0; r < 16; r++) {
            dueGrant("grant " + r + " at first", x, r, 0, 0, 0, 0, 0, 0);
        }
    }

    private static int causeToSeal(int permissions) {
        GrantMath x = with(0, 10, 10, 20, 255, 0, 1);
        make(x, 1, 7, 5, 10, permissions, 0, 1);
        return x.seal(2, 0, 1);
    }

    private static void permission32IsToSeal() {
        for (int bit = 0; bit < 8; bit++) {
            due("seal with permission " + (1 << bit) + " alone", causeToSeal(1 << bit), bit == 5 ? 0 : 3);
            due("seal with all but " + (1 << bit), causeToSeal(255 - (1 << bit)), bit == 5 ? 3 : 0);
        }
    }

    private static int causeToUnseal(int permissions) {
        GrantMath x = with(0, 10, 10, 20, 255, 7, 1);
        make(x, 1, 7, 5, 10, permissions, 0, 1);
        return x.unseal(2, 0, 1);
    }

    private static void permission64IsToUnseal() {
        for (int bit = 0; bit < 8; bit++) {
            due("unseal with permission " + (1 << bit) + " alone", causeToUnseal(1 << bit), bit == 6 ? 0 : 3);
            due("unseal with all but " + (1 << bit), causeToUnseal(255 - (1 << bit)), bit == 6 ? 3 : 0);
        }
    }

    private static void noneIs0() {
        due("seal that is done", causeToSeal(SEAL), 0);
        due("unseal that is done", causeToUnseal(UNSEAL), 0);
        due("allows of what can be had", with(0, 10, 10, 20, 1, 0, 1).allows(0, 0, 10, 1), 0);
    }

    /** The first of the causes that are there, in the document's order. */
    private static int first(boolean tag, boolean seal, boolean permission, boolean bounds) {
        return tag ? 1 : seal ? 2 : permission ? 3 : bounds ? 4 : 0;
    }

    private static void orderOfAllows() {
        for (int faults = 0; faults < 16; faults++) {
            boolean tag = (faults & 1) != 0;
            boolean seal = (faults & 2) != 0;
            boolean permission = (faults & 4) != 0;
            boolean bounds = (faults & 8) != 0;
            GrantMath x = with(0, bounds ? 20 : 19, 10, 20, permission ? 2 : 3, seal ? 7 : 0, tag ? 0 : 1);
            due("allows with faults " + faults, x.allows(0, 0, 1, 1), first(tag, seal, permission, bounds));
        }
    }

    private static void orderOfSeal() {
        // The address of t: as it should be, out of bounds, no type though in bounds.
        int[][] places = {{7, 5, 10}, {7, 8, 10}, {0, 0, 10}, {65536, 5, 70000}};
        for (int faults = 0; faults < 4 * 4 * 2 * places.length; faults++) {
            int tag = faults % 4;
            int seal = faults / 4 % 4;
            boolean permission = faults / 16 % 2 != 0;
            int[] place = places[faults / 32];
            GrantMath x = with(0, 10, 10, 20, 255, (seal & OF_S) != 0 ? 9 : 0, (tag & OF_S) != 0 ? 0 : 1);
            make(x, 1, place[0], place[1], place[2], permission ? 255 - SEAL : SEAL,
                    (seal & OF_T) != 0 ? 9 : 0, (tag & OF_T) != 0 ? 0 : 1);
            due("seal with faults " + faults, x.seal(2, 0, 1),
                    first(tag != NONE, seal != NONE, permission, place != places[0]));
        }
    }

    private static void orderOfUnseal() {
        // The address of t, where s has type 7: as it should be, out of bounds, another type.
        int[][] places = {{7, 5, 10}, {7, 8, 10}, {6, 5, 10}};
        for (int faults = 0; faults < 4 * 4 * 2 * places.length; faults++) {
            int tag = faults % 4;
            int seal = faults / 4 % 4;
            boolean permission = faults / 16 % 2 != 0;
            int[] place = places[faults / 32];
            // A grant s that is not sealed has type 0, which is another type than t's address.
            boolean bounds = place != places[0] || (seal & OF_S) != 0;
            GrantMath x = with(0, 10, 10, 20, 255, (seal & OF_S) != 0 ? 0 : 7, (tag & OF_S) != 0 ? 0 : 1);
            make(x, 1, place[0], place[1], place[2], permission ? 255 - UNSEAL : UNSEAL,
                    (seal & OF_T) != 0 ? 9 : 0, (tag & OF_T) != 0 ? 0 : 1);
            due("unseal with faults " + faults, x.unseal(2, 0, 1),
                    first(tag != NONE, seal != NONE, permission, bounds));
        }
    }

    private static void aTagIsNotThere() {
        for (int who : new int[] {OF_S, OF_T, OF_BOTH}) {
            int tagOfS = (who & OF_S) != 0 ? 0 : 1;
            int tagOfT = (who & OF_T) != 0 ? 0 : 1;
            GrantMath x = with(0, 10, 10, 20, 1, 0, tagOfS);
            make(x, 1, 7, 5, 10, SEAL, 0, tagOfT);
            due("seal with tags " + tagOfS + tagOfT, x.seal(2, 0, 1), 1);
            GrantMath y = with(0, 10, 10, 20, 1, 7, tagOfS);
            make(y, 1, 7, 5, 10, UNSEAL, 0, tagOfT);
            due("unseal with tags " + tagOfS + tagOfT, y.unseal(2, 0, 1), 1);
        }
        due("allows without tag", with(0, 10, 10, 20, 1, 0, 0).allows(0, 0, 1, 1), 1);
        due("allows of nothing, with no permission, without tag", new GrantMath().allows(0, 0, 0, 0), 1);
    }

    private static void sealedThatMustNotBe() {
        GrantMath x = with(0, 10, 10, 20, 1, 3, 1);
        make(x, 1, 7, 5, 10, SEAL | UNSEAL, 0, 1);
        make(x, 2, 7, 5, 10, SEAL | UNSEAL, 3, 1);
        make(x, 3, 10, 10, 20, 1, 0, 1);
        make(x, 4, 10, 10, 20, 1, 7, 1);
        due("seal of a sealed one", x.seal(5, 0, 1), 2);
        due("seal with a sealed one", x.seal(5, 3, 2), 2);
        due("unseal with a sealed one", x.unseal(5, 4, 2), 2);
        due("allows of a sealed one", x.allows(0, 0, 1, 1), 2);
        due("allows of nothing, with no permission, of a sealed one", x.allows(0, 0, 0, 0), 2);
    }

    private static void notSealedThatMustBe() {
        GrantMath x = with(0, 10, 10, 20, 1, 0, 1);
        make(x, 1, 7, 5, 10, UNSEAL, 0, 1);
        due("unseal of an open one", x.unseal(2, 0, 1), 2);
        // Type 0 is t's address here, so that the type alone would not refuse it.
        make(x, 1, 0, 0, 10, UNSEAL, 0, 1);
        due("unseal of an open one by address 0", x.unseal(2, 0, 1), 2);
    }

    private static void aPermissionIsNotThere() {
        due("seal without SEAL", causeToSeal(255 - SEAL), 3);
        due("unseal without UNSEAL", causeToUnseal(255 - UNSEAL), 3);
        due("allows without permission 2", with(0, 10, 10, 20, 1, 0, 1).allows(0, 0, 1, 2), 3);
        due("allows without permission 1", with(0, 10, 10, 20, 0, 0, 1).allows(0, 0, 1, 1), 3);
    }

    private static void placesFromBaseOn() {
        GrantMath x = with(0, 100, 100, 200, 1, 0, 1);
        due("allows of one octet at base", x.allows(0, 0, 1, 1), 0);
        due("allows of one octet below base", x.allows(0, -1, 1, 1), 4);
        due("allows of two octets from below base on", x.allows(0, -1, 2, 1), 4);
        due("allows of all and one below base", x.allows(0, -1, 101, 1), 4);
    }

    private static void placesBelowTop() {
        GrantMath x = with(0, 100, 100, 200, 1, 0, 1);
        due("allows of one octet just below top", x.allows(0, 99, 1, 1), 0);
        due("allows of one octet at top", x.allows(0, 100, 1, 1), 4);
        due("allows of two octets, the second at top", x.allows(0, 99, 2, 1), 4);
        due("allows of all", x.allows(0, 0, 100, 1), 0);
        due("allows of all and one at top", x.allows(0, 0, 101, 1), 4);
        due("allows of one octet in an empty grant", with(0, 9, 9, 9, 1, 0, 1).allows(0, 0, 1, 1), 4);
    }

    private static void noOctets() {
        GrantMath x = with(0, 100, 100, 200, 1, 0, 1);
        due("allows of nothing below base", x.allows(0, -1, 0, 1), 4);
        due("allows of nothing at base", x.allows(0, 0, 0, 1), 0);
        due("allows of nothing just below top", x.allows(0, 99, 0, 1), 0);
        due("allows of nothing at top", x.allows(0, 100, 0, 1), 0);
        due("allows of nothing above top", x.allows(0, 101, 0, 1), 4);
    }

    private static void noOctetsOfAnEmptyGrant() {
        GrantMath x = with(0, 9, 9, 9, 1, 0, 1);
        due("allows of nothing at an empty grant", x.allows(0, 0, 0, 1), 0);
        due("allows of nothing below an empty grant", x.allows(0, -1, 0, 1), 4);
        due("allows of nothing above an empty grant", x.allows(0, 1, 0, 1), 4);
    }

    private static void noOctetsAtTheEnds() {
        GrantMath x = with(0, 0, 0, HIGHEST, 1, 0, 1);
        due("allows of nothing at place 0", x.allows(0, 0, 0, 1), 0);
        due("allows of nothing at the highest place", x.allows(0, HIGHEST, 0, 1), 0);
        GrantMath y = with(0, HIGHEST, HIGHEST, HIGHEST, 1, 0, 1);
        due("allows of nothing at the highest place alone", y.allows(0, 0, 0, 1), 0);
        due("allows of nothing beyond the highest place", y.allows(0, 1, 0, 1), 4);
    }

    private interface Refused {
        int by(GrantMath x, int r);
    }

    /** Nothing is changed whether r is another grant, s or t. */
    private static void dueUnchanged(String what, int cause, int[] s, int[] t, Refused call) {
        for (int r : new int[] {2, 0, 1}) {
            GrantMath x = with(0, s);
            make(x, 1, t);
            make(x, 2, 52, 51, 53, 54, 55, 1);
            String before = whole(x);
            due(what + " into " + r, call.by(x, r), cause);
            due("all after " + what + " into " + r, whole(x), before);
        }
    }

    private static void nothingIsChangedBySeal() {
        int[] open = {10, 10, 20, 1, 0, 1};
        int[] sealer = {7, 5, 10, SEAL, 0, 1};
        Refused seal = (x, r) -> x.seal(r, 0, 1);
        dueUnchanged("seal of cause 1", 1, new int[] {10, 10, 20, 1, 0, 0}, sealer, seal);
        dueUnchanged("seal of cause 1 by t", 1, open, new int[] {7, 5, 10, SEAL, 0, 0}, seal);
        dueUnchanged("seal of cause 2", 2, new int[] {10, 10, 20, 1, 9, 1}, sealer, seal);
        dueUnchanged("seal of cause 2 by t", 2, open, new int[] {7, 5, 10, SEAL, 9, 1}, seal);
        dueUnchanged("seal of cause 3", 3, open, new int[] {7, 5, 10, UNSEAL, 0, 1}, seal);
        dueUnchanged("seal of cause 4", 4, open, new int[] {10, 5, 10, SEAL, 0, 1}, seal);
        dueUnchanged("seal of cause 4 by type 0", 4, open, new int[] {0, 0, 10, SEAL, 0, 1}, seal);
        dueUnchanged("seal of cause 4 by 65536", 4, open, new int[] {65536, 0, 65537, SEAL, 0, 1}, seal);
    }

    private static void nothingIsChangedByUnseal() {
        int[] sealed = {10, 10, 20, 1, 7, 1};
        int[] unsealer = {7, 5, 10, UNSEAL, 0, 1};
        Refused unseal = (x, r) -> x.unseal(r, 0, 1);
        dueUnchanged("unseal of cause 1", 1, new int[] {10, 10, 20, 1, 7, 0}, unsealer, unseal);
        dueUnchanged("unseal of cause 1 by t", 1, sealed, new int[] {7, 5, 10, UNSEAL, 0, 0}, unseal);
        dueUnchanged("unseal of cause 2", 2, new int[] {10, 10, 20, 1, 0, 1}, unsealer, unseal);
        dueUnchanged("unseal of cause 2 by t", 2, sealed, new int[] {7, 5, 10, UNSEAL, 9, 1}, unseal);
        dueUnchanged("unseal of cause 3", 3, sealed, new int[] {7, 5, 10, SEAL, 0, 1}, unseal);
        dueUnchanged("unseal of cause 4", 4, sealed, new int[] {7, 5, 7, UNSEAL, 0, 1}, unseal);
        dueUnchanged("unseal of cause 4 by type", 4, sealed, new int[] {6, 5, 10, UNSEAL, 0, 1}, unseal);
    }

    private static void nothingIsChangedByAllows() {
        int[] other = {7, 5, 10, 1, 0, 1};
        Refused allows = (x, r) -> x.allows(0, 0, 1, 1);
        dueUnchanged("allows of cause 0", 0, new int[] {10, 10, 20, 1, 0, 1}, other, allows);
        dueUnchanged("allows of cause 1", 1, new int[] {10, 10, 20, 1, 0, 0}, other, allows);
        dueUnchanged("allows of cause 2", 2, new int[] {10, 10, 20, 1, 7, 1}, other, allows);
        dueUnchanged("allows of cause 3", 3, new int[] {10, 10, 20, 2, 0, 1}, other, allows);
        dueUnchanged("allows of cause 4", 4, new int[] {20, 10, 20, 1, 0, 1}, other, allows);
    }

    private static void parts() {
        String terms = "Terms";
        sentence("What it is", "at most 512 calls", GrantMathTerms::the512thCall);
        sentence("What it is", "at most 512 calls (of each kind that answers)", GrantMathTerms::allCallsToThe512th);
        sentence(terms, "GRANTS 0..15", GrantMathTerms::sixteenGrants);
        sentence(terms, "ADDRESS (32 bits without sign)", GrantMathTerms::addressWithoutSign);
        sentence(terms, "BASE (32 bits without sign)", GrantMathTerms::baseWithoutSign);
        sentence(terms, "TOP (32 bits without sign)", GrantMathTerms::topWithoutSign);
        sentence(terms, "PERMISSIONS (8 bits)", GrantMathTerms::eightPermissions);
        sentence(terms, "TYPE (0 to 65535", GrantMathTerms::typesTo65535);
        sentence(terms, "with another one than 0 it is SEALED", GrantMathTerms::anotherTypeThan0IsSealed);
        sentence(terms, "and perhaps a TAG", GrantMathTerms::perhapsATag);
        sentence(terms, "all 0 at first", GrantMathTerms::all0AtFirst);
        sentence(terms, "Permission 32 is to SEAL", GrantMathTerms::permission32IsToSeal);
        sentence(terms, "64 to UNSEAL", GrantMathTerms::permission64IsToUnseal);
    }

    private static void causes() {
        String terms = "Terms";
        String order = "looked at in this order";
        String unchanged = "Nothing is changed then";
        sentence(terms, "0 none", GrantMathTerms::noneIs0);
        sentence(terms, order + " (allows)", GrantMathTerms::orderOfAllows);
        sentence(terms, order + " (seal)", GrantMathTerms::orderOfSeal);
        sentence(terms, order + " (unseal)", GrantMathTerms::orderOfUnseal);
        sentence(terms, "1 a TAG is not there", GrantMathTerms::aTagIsNotThere);
        sentence(terms, "2 one is SEALED that must not be", GrantMathTerms::sealedThatMustNotBe);
        sentence(terms, "(or the other way round)", GrantMathTerms::notSealedThatMustBe);
        sentence(terms, "3 a permission is not there", GrantMathTerms::aPermissionIsNotThere);
        sentence(terms, "places from BASE on", GrantMathTerms::placesFromBaseOn);
        sentence(terms, "below TOP", GrantMathTerms::placesBelowTop);
        sentence(terms, "of no octets the place where they would begin is from BASE to TOP",
                GrantMathTerms::noOctets);
        sentence(terms, "of no octets (an empty grant)", GrantMathTerms::noOctetsOfAnEmptyGrant);
        sentence(terms, "of no octets (the lowest and the highest place)", GrantMathTerms::noOctetsAtTheEnds);
        sentence(terms, unchanged + " (seal)", GrantMathTerms::nothingIsChangedBySeal);
        sentence(terms, unchanged + " (unseal)", GrantMathTerms::nothingIsChangedByUnseal);
        sentence(terms, unchanged + " (allows)", GrantMathTerms::nothingIsChangedByAllows);
    }

    public static void main(String[] args) {
        parts();
        causes();
        end();
    }
}
