/** The sentences of promises 9 to 12, each with a test of its own: what grants allow, and what they are. */
public final class GrantMathAsking extends Sentences {
    private static final int MOST = 65536;

    /** An open grant with a tag, and permissions 1 and 4. */
    private static GrantMath at(int address, int base, int top) {
        return with(0, address, base, top, 5, 0, 1);
    }

    private static void octetsFromAddressAndByOn() {
        GrantMath x = at(150, 100, 200);
        due("allows of all, by -50", x.allows(0, -50, 100, 5), 0);
        due("allows of one octet more, by -50", x.allows(0, -50, 101, 5), 4);
        due("allows of as many, by -49", x.allows(0, -49, 100, 5), 4);
        due("allows of as many, by -51", x.allows(0, -51, 100, 5), 4);
        due("allows from the address to top, by 0", x.allows(0, 0, 50, 5), 0);
        due("allows from the address beyond top, by 0", x.allows(0, 0, 51, 5), 4);
        due("allows of the last octet, by 49", x.allows(0, 49, 1, 5), 0);
        due("allows of the octet at top, by 50", x.allows(0, 50, 1, 5), 4);
        due("allows of the first octet, by -50", x.allows(0, -50, 1, 5), 0);
        due("allows of the octet below base, by -51", x.allows(0, -51, 1, 5), 4);
        due("allows of one octet, by 2^31", x.allows(0, Integer.MIN_VALUE, 1, 5), 4);
    }

    private static void whereTheyBeginWraps() {
        due("allows, by 1 from the highest place", at(HIGHEST, 0, 100).allows(0, 1, 100, 5), 0);
        due("allows, by 11 from 10 below the end", at(-10, 0, 100).allows(0, 11, 99, 5), 0);
        due("allows, by 11 from 10 below the end, one too many", at(-10, 0, 100).allows(0, 11, 100, 5), 4);
        due("allows, by -2 from 0", at(0, -100, -1).allows(0, -2, 1, 5), 0);
        due("allows, by -101 from 1", at(1, -100, -1).allows(0, -101, 99, 5), 0);
        due("allows, by -101 from 1, one too many", at(1, -100, -1).allows(0, -101, 100, 5), 4);
        due("allows, by 2^31 from 2^31", at(ABOVE_MIDDLE, 0, 1).allows(0, Integer.MIN_VALUE, 1, 5), 0);
        due("allows of nothing, by 1 from the highest place", at(HIGHEST, 0, 0).allows(0, 1, 0, 5), 0);
    }

    private static void theyDoNotWrap() {
        GrantMath x = at(-2, 0, HIGHEST);
        due("allows of the last octet of all", x.allows(0, 0, 1, 5), 0);
        due("allows of two octets to the end", x.allows(0, 0, 2, 5), 4);
        due("allows of three octets round the end", x.allows(0, 0, 3, 5), 4);
        due("allows of 65536 octets round the end", x.allows(0, 0, MOST, 5), 4);
        GrantMath y = at(-10, -20, HIGHEST);
        due("allows to the top of high places", y.allows(0, 0, 9, 5), 0);
        due("allows round the end of high places", y.allows(0, 0, 20, 5), 4);
        due("allows across 2^31", at(MIDDLE, MIDDLE, ABOVE_MIDDLE + 1).allows(0, 0, 2, 5), 0);
        due("allows beyond 2^31", at(MIDDLE, MIDDLE, ABOVE_MIDDLE + 1).allows(0, 0, 3, 5), 4);
    }

    private static void allThesePermissions() {
        GrantMath x = at(150, 100, 200);
        due("allows with none asked", x.allows(0, 0, 1, 0), 0);
        due("allows with the first of them", x.allows(0, 0, 1, 1), 0);
        due("allows with the second of them", x.allows(0, 0, 1, 4), 0);
        due("allows with both", x.allows(0, 0, 1, 5), 0);
        due("allows with another one", x.allows(0, 0, 1, 2), 3);
        due("allows with both and another one", x.allows(0, 0, 1, 7), 3);
        due("allows with one of them and another one", x.allows(0, 0, 1, 129), 3);
        due("allows of nothing with another one", x.allows(0, 0, 0, 2), 3);
        due("allows with all of all", with(0, 1, 1, 2, 255, 0, 1).allows(0, 0, 1, 255), 0);
        due("allows with none of none", with(0, 1, 1, 2, 0, 0, 1).allows(0, 0, 1, 0), 0);
    }

    private static void aBitAboveThe8() {
        GrantMath x = with(0, 1, 1, 2, 255, 0, 1);
        for (int bit = 8; bit < 32; bit++) {
            due("allows with bit " + bit, x.allows(0, 0, 1, 1 << bit), 3);
            due("allows of nothing with bit " + bit, x.allows(0, 0, 0, 1 << bit), 3);
            due("allows with all 8 and bit " + bit, x.allows(0, 0, 1, 255 | 1 << bit), 3);
        }
        due("allows with all bits", x.allows(0, 0, 1, -1), 3);
    }

    private static void nIsNot0To65536() {
        GrantMath x = with(0, 0, 0, HIGHEST, 255, 0, 1);
        String before = whole(x);
        for (int n : new int[] {-1, -65536, 65537, 65538, Integer.MIN_VALUE, Integer.MAX_VALUE}) {
            dueIllegal("allows with n " + n, () -> x.allows(0, 0, n, 1));
            dueIllegal("allows without tag, with n " + n, () -> x.allows(1, 0, n, 1));
            dueIllegal("allows with bit 256 and n " + n, () -> x.allows(0, 0, n, 256));
        }
        due("all after the refused calls", whole(x), before);
    }

    private static void nIs0Or65536() {
        due("allows with n 65536 in as many", at(10, 10, 10 + MOST).allows(0, 0, MOST, 5), 0);
        due("allows with n 65536 in one fewer", at(10, 10, 9 + MOST).allows(0, 0, MOST, 5), 4);
        due("allows with n 65535 in one fewer", at(10, 10, 9 + MOST).allows(0, 0, MOST - 1, 5), 0);
        due("allows with n 65536 to the end", at(-1 - MOST, 0, HIGHEST).allows(0, 0, MOST, 5), 0);
        due("allows with n 65536 beyond the end", at(-MOST, 0, HIGHEST).allows(0, 0, MOST, 5), 4);
        due("allows with n 0", at(10, 10, 10).allows(0, 0, 0, 5), 0);
    }

    private static boolean isWithin(int[] r, int[] s) {
        GrantMath x = with(0, r);
        make(x, 1, s);
        String before = whole(x);
        boolean answer = x.within(0, 1);
        due("all after within", whole(x), before);
        return answer;
    }

    private static int[] bounds(int base, int top) {
        return new int[] {base, base, top, 6, 0, 1};
    }

    private static int[] allowed(int permissions) {
        return new int[] {150, 100, 200, permissions, 0, 1};
    }

    private static int[] tagged(int tag) {
        return new int[] {150, 100, 200, 6, 0, tag};
    }

    private static void bothHaveATag() {
        due("within with both tags", isWithin(tagged(1), tagged(1)), true);
        due("within without the tag of r", isWithin(tagged(0), tagged(1)), false);
        due("within without the tag of s", isWithin(tagged(1), tagged(0)), false);
        due("within without tags", isWithin(tagged(0), tagged(0)), false);
        GrantMath x = with(0, tagged(1));
        due("within of itself with tag", x.within(0, 0), true);
        due("within of itself without tag", x.within(1, 1), false);
    }

    private static void baseIsNotBelow() {
        int[] s = bounds(100, 200);
        due("within with base just below", isWithin(bounds(99, 200), s), false);
        due("within with the same base", isWithin(bounds(100, 200), s), true);
        due("within with base just above", isWithin(bounds(101, 200), s), true);
        due("within with base 0", isWithin(bounds(0, 200), s), false);
        due("within of an empty one at base", isWithin(bounds(100, 100), s), true);
        due("within of an empty one below base", isWithin(bounds(99, 99), s), false);
        due("within with base 2^31 - 1 and 2^31",
                isWithin(bounds(MIDDLE, HIGHEST), bounds(ABOVE_MIDDLE, HIGHEST)), false);
        due("within with base 2^31 and 2^31 - 1",
                isWithin(bounds(ABOVE_MIDDLE, HIGHEST), bounds(MIDDLE, HIGHEST)), true);
    }

    private static void topIsNotAbove() {
        int[] s = bounds(100, 200);
        due("within with top just above", isWithin(bounds(100, 201), s), false);
        due("within with the same top", isWithin(bounds(100, 200), s), true);
        due("within with top just below", isWithin(bounds(100, 199), s), true);
        due("within with the highest top", isWithin(bounds(100, HIGHEST), s), false);
        due("within of an empty one at top", isWithin(bounds(200, 200), s), true);
        due("within of an empty one above top", isWithin(bounds(201, 201), s), false);
        due("within with top 2^31 and 2^31 - 1", isWithin(bounds(0, ABOVE_MIDDLE), bounds(0, MIDDLE)), false);
        due("within with top 2^31 - 1 and 2^31", isWithin(bounds(0, MIDDLE), bounds(0, ABOVE_MIDDLE)), true);
    }

    private static void allItsPermissions() {
        due("within with the same permissions", isWithin(allowed(6), allowed(6)), true);
        due("within with fewer permissions", isWithin(allowed(2), allowed(6)), true);
        due("within with no permissions", isWithin(allowed(0), allowed(6)), true);
        due("within with none in none", isWithin(allowed(0), allowed(0)), true);
        due("within with a permission more", isWithin(allowed(7), allowed(6)), false);
        due("within with another permission", isWithin(allowed(1), allowed(6)), false);
        due("within with permission 128 more", isWithin(allowed(134), allowed(6)), false);
        due("within with all in all", isWithin(allowed(255), allowed(255)), true);
        due("within with all in none", isWithin(allowed(255), allowed(0)), false);
    }

    // The sentence names all that counts: an address and a type are not among it.
    private static void nothingElseCounts() {
        int[] open = {150, 100, 200, 6, 0, 1};
        int[] sealed = {150, 100, 200, 6, 9, 1};
        int[] moved = {5000, 100, 200, 6, 0, 1};
        due("within of a sealed one", isWithin(sealed, open), true);
        due("within in a sealed one", isWithin(open, sealed), true);
        due("within of both sealed", isWithin(sealed, sealed), true);
        due("within of one whose address is elsewhere", isWithin(moved, open), true);
        due("within in one whose address is elsewhere", isWithin(open, moved), true);
    }

    private static void partsByNumber() {
        GrantMath x = with(14, -7, 100, -3, 33, 4321, 1);
        String before = whole(x);
        due("part(14, 0)", x.part(14, 0), -7);
        due("part(14, 1)", x.part(14, 1), 100);
        due("part(14, 2)", x.part(14, 2), -3);
        due("part(14, 3)", x.part(14, 3), 33);
        due("part(14, 4)", x.part(14, 4), 4321);
        due("all after part", whole(x), before);
    }

    private static void partTagIs1Or0() {
        due("part(0, 5) with tag", with(0, 150, 100, 200, 6, 9, 1).part(0, 5), 1);
        due("part(0, 5) without tag", with(0, 150, 100, 200, 6, 9, 0).part(0, 5), 0);
    }

    private static void otherParts() {
        GrantMath x = with(0, 150, 100, 200, 6, 9, 1);
        for (int what : new int[] {-1, 6, 7, 256, Integer.MIN_VALUE, Integer.MAX_VALUE}) {
            dueIllegal("part(0, " + what + ")", () -> x.part(0, what));
            dueIllegal("part(1, " + what + ")", () -> x.part(1, what));
        }
    }

    private static void grantsWithATag() {
        due("count of a new object", new GrantMath().count(0, 0), 0);
        GrantMath x = new GrantMath();
        for (int r = 0; r < 16; r++) {
            x.root(r, 100, 200, 4);
            due("count after " + (r + 1) + " roots", x.count(150, 4), r + 1);
        }
        x.number(15, 150);
        due("count without the last", x.count(150, 4), 15);
        x.number(0, 150);
        due("count without the first", x.count(150, 4), 14);
        GrantMath y = with(0, 150, 100, 200, 4, 0, 0);
        due("count of one without tag", y.count(150, 4), 0);
        due("count of one without tag, with none asked", y.count(150, 0), 0);
    }

    private static void allOfPermissions() {
        GrantMath x = with(0, 150, 100, 200, 5, 0, 1);
        make(x, 1, 150, 100, 200, 4, 0, 1);
        make(x, 2, 150, 100, 200, 0, 0, 1);
        make(x, 3, 150, 100, 200, 255, 0, 1);
        due("count with none asked", x.count(150, 0), 4);
        due("count with 4", x.count(150, 4), 3);
        due("count with 5", x.count(150, 5), 2);
        due("count with 7", x.count(150, 7), 1);
        due("count with all 8", x.count(150, 255), 1);
        for (int bit = 8; bit < 32; bit++) {
            due("count with bit " + bit, x.count(150, 1 << bit), 0);
            due("count with all 8 and bit " + bit, x.count(150, 255 | 1 << bit), 0);
        }
        due("count with all bits", x.count(150, -1), 0);
    }

    private static void atAnOctet() {
        GrantMath x = with(0, 5000, 100, 200, 1, 0, 1);
        due("count at its address, out of bounds", x.count(5000, 1), 0);
        due("count just below base", x.count(99, 1), 0);
        due("count at base", x.count(100, 1), 1);
        due("count just below top", x.count(199, 1), 1);
        due("count at top", x.count(200, 1), 0);
        due("count in an empty one", with(0, 9, 9, 9, 1, 0, 1).count(9, 1), 0);
    }

    private static void atAnOctetWithoutSign() {
        GrantMath x = with(0, 0, 0, HIGHEST, 1, 0, 1);
        make(x, 1, -100, -100, HIGHEST, 1, 0, 1);
        make(x, 2, MIDDLE, MIDDLE, ABOVE_MIDDLE + 1, 1, 0, 1);
        due("count at 0", x.count(0, 1), 1);
        due("count at 2^31 - 2", x.count(MIDDLE - 1, 1), 1);
        due("count at 2^31 - 1", x.count(MIDDLE, 1), 2);
        due("count at 2^31", x.count(ABOVE_MIDDLE, 1), 2);
        due("count at 2^31 + 1", x.count(ABOVE_MIDDLE + 1, 1), 1);
        due("count at 2^32 - 101", x.count(-101, 1), 1);
        due("count at 2^32 - 100", x.count(-100, 1), 2);
        due("count at 2^32 - 2", x.count(-2, 1), 2);
        due("count at the highest place", x.count(HIGHEST, 1), 0);
    }

    private static void notSealed() {
        GrantMath x = with(0, 150, 100, 200, 1, 0, 1);
        make(x, 1, 150, 100, 200, 1, 1, 1);
        make(x, 2, 150, 100, 200, 1, 65535, 1);
        String before = whole(x);
        due("count beside sealed ones", x.count(150, 1), 1);
        due("count beside sealed ones, with none asked", x.count(150, 0), 1);
        due("all after count", whole(x), before);
    }

    private static void promise9() {
        sentence("Promise 9", "n octets from its ADDRESS and by on", GrantMathAsking::octetsFromAddressAndByOn);
        sentence("Promise 9", "where they begin wraps", GrantMathAsking::whereTheyBeginWraps);
        sentence("Promise 9", "they do not", GrantMathAsking::theyDoNotWrap);
        sentence("Promise 9", "with all these permissions", GrantMathAsking::allThesePermissions);
        sentence("Promise 9", "a bit above the 8 is one that is not there", GrantMathAsking::aBitAboveThe8);
        sentence("Promise 9", "IllegalArgumentException: n is not 0..65536", GrantMathAsking::nIsNot0To65536);
        sentence("Promise 9", "0..65536", GrantMathAsking::nIs0Or65536);
    }

    private static void promise10() {
        sentence("Promise 10", "Whether both have a TAG", GrantMathAsking::bothHaveATag);
        sentence("Promise 10", "r's BASE is not below s's", GrantMathAsking::baseIsNotBelow);
        sentence("Promise 10", "its TOP not above s's", GrantMathAsking::topIsNotAbove);
        sentence("Promise 10", "and all its PERMISSIONS are s's", GrantMathAsking::allItsPermissions);
        sentence("Promise 10", "Whether (and nothing else counts)", GrantMathAsking::nothingElseCounts);
    }

    private static void promises11And12() {
        sentence("Promise 11", "what 0 ADDRESS, 1 BASE, 2 TOP, 3 PERMISSIONS, 4 TYPE",
                GrantMathAsking::partsByNumber);
        sentence("Promise 11", "5 TAG (1, 0)", GrantMathAsking::partTagIs1Or0);
        sentence("Promise 11", "IllegalArgumentException for others", GrantMathAsking::otherParts);
        sentence("Promise 12", "How many GRANTS with a TAG", GrantMathAsking::grantsWithATag);
        sentence("Promise 12", "allow all of permissions", GrantMathAsking::allOfPermissions);
        sentence("Promise 12", "at an octet", GrantMathAsking::atAnOctet);
        sentence("Promise 12", "at an octet (32 bits without sign)", GrantMathAsking::atAnOctetWithoutSign);
        sentence("Promise 12", "and are not SEALED", GrantMathAsking::notSealed);
    }

    public static void main(String[] args) {
        promise9();
        promise10();
        promises11And12();
        end();
    }
}
