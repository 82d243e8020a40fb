/** The sentences of promises 7 and 8, each with a test of its own: grants are sealed and opened. */
public final class GrantMathSealing extends Sentences {
    private static final int[] OPEN = {15, 10, 20, 7, 0, 1};
    private static final int[] SEALED = {15, 10, 20, 7, 8, 1};
    private static final int[] SEALER = {8, 5, 10, SEAL, 0, 1};
    private static final int[] UNSEALER = {8, 5, 10, UNSEAL, 0, 1};
    private static final int[] OTHER = {52, 51, 53, 54, 55, 1};

    /** Grant 0 is s, 1 is t, 2 another one, which is sealed. */
    private static GrantMath of(int[] s, int[] t) {
        GrantMath x = with(0, s);
        make(x, 1, t);
        make(x, 2, OTHER);
        return x;
    }

    private static int[] typed(int[] parts, int type) {
        int[] all = parts.clone();
        all[TYPE] = type;
        return all;
    }

    private static int[] untagged(int[] parts) {
        int[] all = parts.clone();
        all[TAG] = 0;
        return all;
    }

    private static int[] allowed(int[] parts, int permissions) {
        int[] all = parts.clone();
        all[PERMISSIONS] = permissions;
        return all;
    }

    /** A t with an address and bounds, which may seal and unseal. */
    private static int[] by(int address, int base, int top) {
        return new int[] {address, base, top, SEAL | UNSEAL, 0, 1};
    }

    private static void dueSeal(String what, int[] s, int[] t, int cause) {
        GrantMath x = of(s, t);
        due("seal " + what, x.seal(2, 0, 1), cause);
        dueGrant("r of seal " + what, x, 2, cause == 0 ? typed(s, t[ADDRESS]) : OTHER);
        dueGrant("s of seal " + what, x, 0, s);
        dueGrant("t of seal " + what, x, 1, t);
    }

    private static void dueUnseal(String what, int[] s, int[] t, int cause) {
        GrantMath x = of(s, t);
        due("unseal " + what, x.unseal(2, 0, 1), cause);
        dueGrant("r of unseal " + what, x, 2, cause == 0 ? typed(s, 0) : OTHER);
        dueGrant("s of unseal " + what, x, 0, s);
        dueGrant("t of unseal " + what, x, 1, t);
    }

    private static void sealedIsSWithType() {
        dueSeal("of an ordinary one", OPEN, SEALER, 0);
        dueSeal("of one without permissions", allowed(OPEN, 0), SEALER, 0);
        dueSeal("of one whose address is out of bounds", new int[] {-3, 10, 20, 7, 0, 1}, SEALER, 0);
        dueSeal("of an empty one", new int[] {9, 9, 9, 7, 0, 1}, SEALER, 0);
        dueSeal("of all places", new int[] {0, 0, HIGHEST, 255, 0, 1}, SEALER, 0);
    }

    private static void sealIntoSOrT() {
        GrantMath x = of(OPEN, SEALER);
        due("seal where r is s", x.seal(0, 0, 1), 0);
        dueGrant("seal where r is s", x, 0, typed(OPEN, 8));
        GrantMath y = of(OPEN, SEALER);
        due("seal where r is t", y.seal(1, 0, 1), 0);
        dueGrant("seal where r is t", y, 1, typed(OPEN, 8));
        GrantMath z = of(OPEN, SEALER);
        due("seal where s is t", z.seal(2, 1, 1), 0);
        dueGrant("seal where s is t", z, 2, typed(SEALER, 8));
        due("seal where all are one", z.seal(1, 1, 1), 0);
        dueGrant("seal where all are one", z, 1, typed(SEALER, 8));
    }

    private static void sealWithoutTag() {
        dueSeal("of s without tag", untagged(OPEN), SEALER, 1);
        dueSeal("by t without tag", OPEN, untagged(SEALER), 1);
        dueSeal("of both without tag", untagged(OPEN), untagged(SEALER), 1);
        GrantMath x = new GrantMath();
        x.number(1, 8);
        due("seal of new grants", x.seal(2, 0, 0), 1);
        due("seal of a number by itself", x.seal(2, 1, 1), 1);
    }

    private static void sealWithASealedOne() {
        dueSeal("of s that is sealed", SEALED, SEALER, 2);
        dueSeal("of s that is sealed with another type", typed(OPEN, 65535), SEALER, 2);
        dueSeal("by t that is sealed", OPEN, typed(SEALER, 8), 2);
        dueSeal("by t that is sealed with another type", OPEN, typed(SEALER, 1), 2);
        dueSeal("of both that are sealed", SEALED, typed(SEALER, 8), 2);
    }

    private static void sealWithoutPermission() {
        dueSeal("by t without permissions", OPEN, allowed(SEALER, 0), 3);
        dueSeal("by t with all but SEAL", OPEN, allowed(SEALER, 255 - SEAL), 3);
        dueSeal("by t with UNSEAL alone", OPEN, allowed(SEALER, UNSEAL), 3);
        dueSeal("by t without SEAL, of s with SEAL", allowed(OPEN, SEAL), allowed(SEALER, 0), 3);
        dueSeal("by t with SEAL alone", allowed(OPEN, 0), allowed(SEALER, SEAL), 0);
        dueSeal("by t with all", OPEN, allowed(SEALER, 255), 0);
    }

    private static void sealOutOfBounds() {
        dueSeal("by an address just below base", OPEN, by(4, 5, 10), 4);
        dueSeal("by an address at base", OPEN, by(5, 5, 10), 0);
        dueSeal("by an address just below top", OPEN, by(9, 5, 10), 0);
        dueSeal("by an address at top", OPEN, by(10, 5, 10), 4);
        dueSeal("by an address above top", OPEN, by(11, 5, 10), 4);
        dueSeal("by an empty one", OPEN, by(5, 5, 5), 4);
        dueSeal("by one of high places", OPEN, by(5, ABOVE_MIDDLE, HIGHEST), 4);
        dueSeal("by one to the highest place", OPEN, by(5, 5, HIGHEST), 0);
    }

    private static void sealWithNoType() {
        dueSeal("by address 0", OPEN, by(0, 0, HIGHEST), 4);
        dueSeal("by address 1", OPEN, by(1, 0, HIGHEST), 0);
        dueSeal("by address 65535", OPEN, by(65535, 0, HIGHEST), 0);
        dueSeal("by address 65536", OPEN, by(65536, 0, HIGHEST), 4);
        dueSeal("by address 65537", OPEN, by(65537, 0, HIGHEST), 4);
        dueSeal("by address 2^31 - 1", OPEN, by(MIDDLE, 0, HIGHEST), 4);
        dueSeal("by address 2^31", OPEN, by(ABOVE_MIDDLE, 0, HIGHEST), 4);
        dueSeal("by address 2^31 + 5", OPEN, by(ABOVE_MIDDLE + 5, 0, HIGHEST), 4);
        dueSeal("by address 2^32 - 2", OPEN, by(HIGHEST - 1, 0, HIGHEST), 4);
    }

    private static void openedIsSWithType0() {
        dueUnseal("of an ordinary one", SEALED, UNSEALER, 0);
        dueUnseal("of one without permissions", allowed(SEALED, 0), UNSEALER, 0);
        dueUnseal("of one whose address is out of bounds", new int[] {-3, 10, 20, 7, 8, 1}, UNSEALER, 0);
        dueUnseal("of an empty one", new int[] {9, 9, 9, 7, 8, 1}, UNSEALER, 0);
        dueUnseal("of all places", new int[] {0, 0, HIGHEST, 255, 8, 1}, UNSEALER, 0);
        dueUnseal("of type 1", typed(OPEN, 1), by(1, 1, 2), 0);
        dueUnseal("of type 65535", typed(OPEN, 65535), by(65535, 65535, 65536), 0);
    }

    private static void unsealIntoSOrT() {
        GrantMath x = of(SEALED, UNSEALER);
        due("unseal where r is s", x.unseal(0, 0, 1), 0);
        dueGrant("unseal where r is s", x, 0, OPEN);
        GrantMath y = of(SEALED, UNSEALER);
        due("unseal where r is t", y.unseal(1, 0, 1), 0);
        dueGrant("unseal where r is t", y, 1, OPEN);
    }

    private static void unsealWithoutTag() {
        dueUnseal("of s without tag", untagged(SEALED), UNSEALER, 1);
        dueUnseal("by t without tag", SEALED, untagged(UNSEALER), 1);
        dueUnseal("of both without tag", untagged(SEALED), untagged(UNSEALER), 1);
        due("unseal of new grants", new GrantMath().unseal(2, 0, 0), 1);
    }

    private static void unsealOfAnOpenOne() {
        dueUnseal("of s that is open", OPEN, UNSEALER, 2);
        dueUnseal("of s that is open, by address 0", OPEN, by(0, 0, 10), 2);
        dueUnseal("of s that is t", UNSEALER, UNSEALER, 2);
        GrantMath x = with(0, UNSEALER);
        due("unseal where s is t and open", x.unseal(1, 0, 0), 2);
    }

    private static void unsealByASealedOne() {
        dueUnseal("by t that is sealed", SEALED, typed(UNSEALER, 8), 2);
        dueUnseal("by t that is sealed with another type", SEALED, typed(UNSEALER, 1), 2);
        dueUnseal("of s that is open, by t that is sealed", OPEN, typed(UNSEALER, 8), 2);
        GrantMath x = with(0, typed(UNSEALER, 8));
        due("unseal where s is t and sealed", x.unseal(1, 0, 0), 2);
    }

    private static void unsealWithoutPermission() {
        dueUnseal("by t without permissions", SEALED, allowed(UNSEALER, 0), 3);
        dueUnseal("by t with all but UNSEAL", SEALED, allowed(UNSEALER, 255 - UNSEAL), 3);
        dueUnseal("by t with SEAL alone", SEALED, allowed(UNSEALER, SEAL), 3);
        dueUnseal("by t without UNSEAL, of s with UNSEAL", allowed(SEALED, UNSEAL), allowed(UNSEALER, 0), 3);
        dueUnseal("by t with UNSEAL alone", allowed(SEALED, 0), allowed(UNSEALER, UNSEAL), 0);
        dueUnseal("by t with all", SEALED, allowed(UNSEALER, 255), 0);
    }

    private static void unsealOutOfBounds() {
        dueUnseal("by its type just below base", SEALED, by(8, 9, 20), 4);
        dueUnseal("by its type at base", SEALED, by(8, 8, 20), 0);
        dueUnseal("by its type just below top", SEALED, by(8, 5, 9), 0);
        dueUnseal("by its type at top", SEALED, by(8, 5, 8), 4);
        dueUnseal("by its type above top", SEALED, by(8, 5, 7), 4);
        dueUnseal("by its type of an empty one", SEALED, by(8, 8, 8), 4);
        dueUnseal("by its type below high places", SEALED, by(8, ABOVE_MIDDLE, HIGHEST), 4);
        dueUnseal("by its type of all places", SEALED, by(8, 0, HIGHEST), 0);
    }

    private static void unsealByAnotherType() {
        dueUnseal("by one type less", SEALED, by(7, 0, HIGHEST), 4);
        dueUnseal("by one type more", SEALED, by(9, 0, HIGHEST), 4);
        dueUnseal("by address 0", SEALED, by(0, 0, HIGHEST), 4);
        dueUnseal("by 65536 more than its type", SEALED, by(65536 + 8, 0, HIGHEST), 4);
        dueUnseal("by 2^31 more than its type", SEALED, by(ABOVE_MIDDLE + 8, 0, HIGHEST), 4);
        dueUnseal("by 2^32 - 1 for type 65535", typed(OPEN, 65535), by(HIGHEST, 0, HIGHEST), 4);
        dueUnseal("by 2^32 - 2 for type 65534", typed(OPEN, 65534), by(HIGHEST - 1, 0, HIGHEST), 4);
    }

    private static void promise7() {
        sentence("Promise 7", "GRANT r is s with TYPE t's ADDRESS: the CAUSE", GrantMathSealing::sealedIsSWithType);
        sentence("Promise 7", "GRANT r is s (r is s or t)", GrantMathSealing::sealIntoSOrT);
        sentence("Promise 7", "1: s, t have no TAG", GrantMathSealing::sealWithoutTag);
        sentence("Promise 7", "2: s or t is SEALED", GrantMathSealing::sealWithASealedOne);
        sentence("Promise 7", "3: t has not SEAL", GrantMathSealing::sealWithoutPermission);
        sentence("Promise 7", "4: t's ADDRESS", GrantMathSealing::sealOutOfBounds);
        sentence("Promise 7", "or it is not 1 to 65535", GrantMathSealing::sealWithNoType);
    }

    private static void promise8() {
        sentence("Promise 8", "GRANT r is s with TYPE 0: the CAUSE", GrantMathSealing::openedIsSWithType0);
        sentence("Promise 8", "GRANT r is s (r is s or t)", GrantMathSealing::unsealIntoSOrT);
        sentence("Promise 8", "1: likewise", GrantMathSealing::unsealWithoutTag);
        sentence("Promise 8", "2: s is not SEALED", GrantMathSealing::unsealOfAnOpenOne);
        sentence("Promise 8", "or t is", GrantMathSealing::unsealByASealedOne);
        sentence("Promise 8", "3: t has not UNSEAL", GrantMathSealing::unsealWithoutPermission);
        sentence("Promise 8", "4: t's ADDRESS is not in its bounds", GrantMathSealing::unsealOutOfBounds);
        sentence("Promise 8", "or not s's TYPE", GrantMathSealing::unsealByAnotherType);
    }

    public static void main(String[] args) {
        promise7();
        promise8();
        end();
    }
}
