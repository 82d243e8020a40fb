/** Grants of memory: sixteen places with bounds, permissions, a type and a tag. */
public final class GrantMath {
    private static final int GRANTS = 16;

    private static final int MOST_PERMISSIONS = 255;
    private static final int MOST_TYPE = 65535;
    private static final int MOST_OCTETS = 65536;

    private static final int MAY_SEAL = 32;
    private static final int MAY_UNSEAL = 64;

    private static final int CAUSE_NONE = 0;
    private static final int CAUSE_TAG = 1;
    private static final int CAUSE_SEALED = 2;
    private static final int CAUSE_PERMISSION = 3;
    private static final int CAUSE_BOUNDS = 4;

    private static final int PART_ADDRESS = 0;
    private static final int PART_BASE = 1;
    private static final int PART_TOP = 2;
    private static final int PART_PERMISSIONS = 3;
    private static final int PART_TYPE = 4;
    private static final int PART_TAG = 5;

    // One row for each part, so that no call has to make an object.
    private final int[] addresses;
    private final int[] bases;
    private final int[] tops;
    private final int[] permissionSets;
    private final int[] types;
    private final boolean[] tags;

    public GrantMath() {
        addresses = new int[GRANTS];
        bases = new int[GRANTS];
        tops = new int[GRANTS];
        permissionSets = new int[GRANTS];
        types = new int[GRANTS];
        tags = new boolean[GRANTS];
    }

    public void root(int r, int base, int top, int permissions)
            throws IllegalArgumentException, IndexOutOfBoundsException {
        if (unsigned(base) > unsigned(top)) {
            throw new IllegalArgumentException("base is above top");
        }
        if (permissions < 0 || permissions > MOST_PERMISSIONS) {
            throw new IllegalArgumentException("permissions are not 0..255");
        }
        requireGrant(r);
        addresses[r] = base;
        bases[r] = base;
        tops[r] = top;
        permissionSets[r] = permissions;
        types[r] = 0;
        tags[r] = true;
    }

    public void number(int r, int v) throws IndexOutOfBoundsException {
        requireGrant(r);
        addresses[r] = v;
        bases[r] = 0;
        tops[r] = 0;
        permissionSets[r] = 0;
        types[r] = 0;
        tags[r] = false;
    }

    public void move(int r, int s, int n) throws IndexOutOfBoundsException {
        requireGrant(r);
        requireGrant(s);
        boolean keepsTag = !isSealed(s) || n == 0;
        copy(r, s);
        addresses[r] += n;
        tags[r] = tags[r] && keepsTag;
    }

    public boolean narrow(int r, int s, int n) throws IndexOutOfBoundsException {
        requireGrant(r);
        requireGrant(s);
        // The sum from an address above top, or beyond 32 bits, is above top too, so it tells all three.
        boolean keepsTag = !isSealed(s) && isInBounds(s, addresses[s], unsigned(n));
        copy(r, s);
        bases[r] = addresses[r];
        tops[r] = addresses[r] + n;
        tags[r] = tags[r] && keepsTag;
        return tags[r];
    }

    public boolean restrict(int r, int s, int mask) throws IndexOutOfBoundsException {
        requireGrant(r);
        requireGrant(s);
        int kept = permissionSets[s] & mask;
        boolean keepsTag = !isSealed(s) || kept == permissionSets[s];
        copy(r, s);
        permissionSets[r] = kept;
        tags[r] = tags[r] && keepsTag;
        return tags[r];
    }

    public int seal(int r, int s, int t) throws IndexOutOfBoundsException {
        requireGrant(r);
        requireGrant(s);
        requireGrant(t);
        int cause = sealingCause(s, t);
        if (cause == CAUSE_NONE) {
            // Read before the copy, for r may be t.
            int type = addresses[t];
            copy(r, s);
            types[r] = type;
        }
        return cause;
    }

    public int unseal(int r, int s, int t) throws IndexOutOfBoundsException {
        requireGrant(r);
        requireGrant(s);
        requireGrant(t);
        int cause = unsealingCause(s, t);
        if (cause == CAUSE_NONE) {
            copy(r, s);
            types[r] = 0;
        }
        return cause;
    }

    public int allows(int r, int by, int n, int permissions)
            throws IllegalArgumentException, IndexOutOfBoundsException {
        if (n < 0 || n > MOST_OCTETS) {
            throw new IllegalArgumentException("n is not 0..65536");
        }
        requireGrant(r);
        return accessCause(r, addresses[r] + by, n, permissions);
    }

    public boolean within(int r, int s) throws IndexOutOfBoundsException {
        requireGrant(r);
        requireGrant(s);
        return tags[r] && tags[s]
                && unsigned(bases[r]) >= unsigned(bases[s])
                && unsigned(tops[r]) <= unsigned(tops[s])
                && hasPermissions(s, permissionSets[r]);
    }

    public int part(int r, int what) throws IllegalArgumentException, IndexOutOfBoundsException {
        if (what < PART_ADDRESS || what > PART_TAG) {
            throw new IllegalArgumentException("there is no such part");
        }
        requireGrant(r);
        switch (what) {
            case PART_ADDRESS:
                return addresses[r];
            case PART_BASE:
                return bases[r];
            case PART_TOP:
                return tops[r];
            case PART_PERMISSIONS:
                return permissionSets[r];
            case PART_TYPE:
                return types[r];
            default:
                return tags[r] ? 1 : 0;
        }
    }

    public int count(int at, int permissions) {
        int found = 0;
        for (int g = 0; g < GRANTS; g++) {
            if (accessCause(g, at, 1, permissions) == CAUSE_NONE) {
                found++;
            }
        }
        return found;
    }

    private static void requireGrant(int g) {
        if (g < 0 || g >= GRANTS) {
            throw new IndexOutOfBoundsException("there is no such grant");
        }
    }

    private static long unsigned(int v) {
        return v & 0xFFFFFFFFL;
    }

    private void copy(int r, int s) {
        addresses[r] = addresses[s];
        bases[r] = bases[s];
        tops[r] = tops[s];
        permissionSets[r] = permissionSets[s];
        types[r] = types[s];
        tags[r] = tags[s];
    }

    private boolean isSealed(int g) {
        return types[g] != 0;
    }

    private boolean hasPermissions(int g, int wanted) {
        return (wanted & ~permissionSets[g]) == 0;
    }

    private boolean isInBounds(int g, int start, long octets) {
        // In long, for the octets do not wrap where the address space ends.
        long first = unsigned(start);
        return first >= unsigned(bases[g]) && first + octets <= unsigned(tops[g]);
    }

    private int accessCause(int g, int start, int octets, int permissions) {
        if (!tags[g]) {
            return CAUSE_TAG;
        }
        if (isSealed(g)) {
            return CAUSE_SEALED;
        }
        if (!hasPermissions(g, permissions)) {
            return CAUSE_PERMISSION;
        }
        return isInBounds(g, start, octets) ? CAUSE_NONE : CAUSE_BOUNDS;
    }

    private int sealingCause(int s, int t) {
        if (!tags[s] || !tags[t]) {
            return CAUSE_TAG;
        }
        if (isSealed(s)) {
            return CAUSE_SEALED;
        }
        int cause = accessCause(t, addresses[t], 1, MAY_SEAL);
        if (cause != CAUSE_NONE) {
            return cause;
        }
        boolean canBeType = addresses[t] >= 1 && addresses[t] <= MOST_TYPE;
        return canBeType ? CAUSE_NONE : CAUSE_BOUNDS;
    }

    private int unsealingCause(int s, int t) {
        if (!tags[s] || !tags[t]) {
            return CAUSE_TAG;
        }
        if (!isSealed(s)) {
            return CAUSE_SEALED;
        }
        int cause = accessCause(t, addresses[t], 1, MAY_UNSEAL);
        if (cause != CAUSE_NONE) {
            return cause;
        }
        return addresses[t] == types[s] ? CAUSE_NONE : CAUSE_BOUNDS;
    }
}
