import java.math.BigInteger;
import java.util.ArrayList;
import java.util.Arrays;
import java.util.List;
import java.util.Random;
import java.util.Set;
import java.util.TreeSet;

/**
 * Many runs of calls, the same each time, against a slow model written straight from the document:
 * it holds each grant as a value, numbers without bounds and permissions as sets.
 */
public final class GrantMathModel {
    private static final int RUNS = 2000;
    // With the look at all 96 parts after them, they are the 512 calls that the document promises.
    private static final int CALLS = 416;
    private static final int PART = 9;
    private static final int COUNT = 10;
    // Every answer, cause and exception of every call but part and count.
    private static final int OUTCOMES = 35;
    private static final BigInteger WORD = BigInteger.ONE.shiftLeft(32);
    private static final int[] EDGES = {
        0, 1, 2, 4, 5, 6, 9, 10, 11, 32, 64, 96, 255, 256, 65535, 65536, 65537, -1, -2, -100,
        Integer.MAX_VALUE, Integer.MIN_VALUE};

    private record Grant(BigInteger address, BigInteger base, BigInteger top,
            Set<Integer> permissions, int type, boolean tag) {
        boolean sealed() {
            return type != 0;
        }

        boolean holds(BigInteger place) {
            return place.compareTo(base) >= 0 && place.compareTo(top) < 0;
        }

        Grant tagIf(boolean kept) {
            return new Grant(address, base, top, permissions, type, tag && kept);
        }

        Grant withType(int newType) {
            return new Grant(address, base, top, permissions, newType, tag);
        }
    }

    private static BigInteger word(int v) {
        return BigInteger.valueOf(v).mod(WORD);
    }

    private static Set<Integer> bits(int v) {
        Set<Integer> all = new TreeSet<>();
        for (int i = 0; i < 32; i++) {
            if ((v >>> i) % 2 != 0) {
                all.add(i);
            }
        }
        return all;
    }

    private final Grant[] grants = new Grant[16];

    private GrantMathModel() {
        Arrays.fill(grants, new Grant(BigInteger.ZERO, BigInteger.ZERO, BigInteger.ZERO, Set.of(), 0, false));
    }

    private static boolean there(int... indices) {
        return Arrays.stream(indices).allMatch(i -> i >= 0 && i <= 15);
    }

    private static String said(boolean b) {
        return b ? "1" : "0";
    }

    private String root(int r, int base, int top, int permissions) {
        if (word(base).compareTo(word(top)) > 0 || permissions < 0 || permissions > 255) {
            return "IllegalArgumentException";
        }
        if (!there(r)) {
            return "IndexOutOfBoundsException";
        }
        grants[r] = new Grant(word(base), word(base), word(top), bits(permissions), 0, true);
        return "";
    }

    private String number(int r, int v) {
        if (!there(r)) {
            return "IndexOutOfBoundsException";
        }
        grants[r] = new Grant(word(v), BigInteger.ZERO, BigInteger.ZERO, Set.of(), 0, false);
        return "";
    }

    private String move(int r, int s, int n) {
        if (!there(r, s)) {
            return "IndexOutOfBoundsException";
        }
        Grant g = grants[s];
        BigInteger address = g.address().add(word(n)).mod(WORD);
        grants[r] = new Grant(address, g.base(), g.top(), g.permissions(), g.type(), g.tag())
                .tagIf(!(g.sealed() && n != 0));
        return "";
    }

    private String narrow(int r, int s, int n) {
        if (!there(r, s)) {
            return "IndexOutOfBoundsException";
        }
        Grant g = grants[s];
        BigInteger top = g.address().add(word(n));
        boolean gone = g.sealed()
                || g.address().compareTo(g.base()) < 0
                || g.address().compareTo(g.top()) > 0
                || top.compareTo(g.top()) > 0
                || top.compareTo(WORD) >= 0;
        grants[r] = new Grant(g.address(), g.address(), top.mod(WORD), g.permissions(), g.type(), g.tag())
                .tagIf(!gone);
        return said(grants[r].tag());
    }

    private String restrict(int r, int s, int mask) {
        if (!there(r, s)) {
            return "IndexOutOfBoundsException";
        }
        Grant g = grants[s];
        Set<Integer> kept = new TreeSet<>(g.permissions());
        boolean lost = kept.retainAll(bits(mask));
        grants[r] = new Grant(g.address(), g.base(), g.top(), kept, g.type(), g.tag())
                .tagIf(!(g.sealed() && lost));
        return said(grants[r].tag());
    }

    private String seal(int r, int s, int t) {
        if (!there(r, s, t)) {
            return "IndexOutOfBoundsException";
        }
        Grant what = grants[s];
        Grant by = grants[t];
        if (!what.tag() || !by.tag()) {
            return "1";
        }
        if (what.sealed() || by.sealed()) {
            return "2";
        }
        if (!by.permissions().contains(5)) {
            return "3";
        }
        if (!by.holds(by.address()) || by.address().signum() == 0 || by.address().bitLength() > 16) {
            return "4";
        }
        grants[r] = what.withType(by.address().intValueExact());
        return "0";
    }

    private String unseal(int r, int s, int t) {
        if (!there(r, s, t)) {
            return "IndexOutOfBoundsException";
        }
        Grant what = grants[s];
        Grant by = grants[t];
        if (!what.tag() || !by.tag()) {
            return "1";
        }
        if (!what.sealed() || by.sealed()) {
            return "2";
        }
        if (!by.permissions().contains(6)) {
            return "3";
        }
        if (!by.holds(by.address()) || !by.address().equals(BigInteger.valueOf(what.type()))) {
            return "4";
        }
        grants[r] = what.withType(0);
        return "0";
    }

    private String allows(int r, int by, int n, int permissions) {
        if (n < 0 || n > 65536) {
            return "IllegalArgumentException";
        }
        if (!there(r)) {
            return "IndexOutOfBoundsException";
        }
        Grant g = grants[r];
        if (!g.tag()) {
            return "1";
        }
        if (g.sealed()) {
            return "2";
        }
        if (!g.permissions().containsAll(bits(permissions))) {
            return "3";
        }
        BigInteger first = g.address().add(word(by)).mod(WORD);
        boolean all = n == 0
                ? g.holds(first) || first.equals(g.top())
                : g.holds(first) && g.holds(first.add(BigInteger.valueOf(n - 1)));
        return all ? "0" : "4";
    }

    private String within(int r, int s) {
        if (!there(r, s)) {
            return "IndexOutOfBoundsException";
        }
        Grant in = grants[r];
        Grant of = grants[s];
        return said(in.tag() && of.tag() && in.base().compareTo(of.base()) >= 0
                && in.top().compareTo(of.top()) <= 0 && of.permissions().containsAll(in.permissions()));
    }

    private String part(int r, int what) {
        if (what < 0 || what > 5) {
            return "IllegalArgumentException";
        }
        if (!there(r)) {
            return "IndexOutOfBoundsException";
        }
        Grant g = grants[r];
        switch (what) {
            case 0: return "" + g.address().intValue();
            case 1: return "" + g.base().intValue();
            case 2: return "" + g.top().intValue();
            case 3: return "" + g.permissions().stream().mapToInt(i -> 1 << i).sum();
            case 4: return "" + g.type();
            default: return said(g.tag());
        }
    }

    private String count(int at, int permissions) {
        return "" + Arrays.stream(grants)
                .filter(g -> g.tag() && !g.sealed() && g.holds(word(at)))
                .filter(g -> g.permissions().containsAll(bits(permissions)))
                .count();
    }

    private String answer(int call, int[] a) {
        switch (call) {
            case 0: return root(a[0], a[1], a[2], a[3]);
            case 1: return number(a[0], a[1]);
            case 2: return move(a[0], a[1], a[2]);
            case 3: return narrow(a[0], a[1], a[2]);
            case 4: return restrict(a[0], a[1], a[2]);
            case 5: return seal(a[0], a[1], a[2]);
            case 6: return unseal(a[0], a[1], a[2]);
            case 7: return allows(a[0], a[1], a[2], a[3]);
            case 8: return within(a[0], a[1]);
            case 9: return part(a[0], a[1]);
            default: return count(a[0], a[1]);
        }
    }

    private static String answerOf(GrantMath x, int call, int[] a) {
        try {
            switch (call) {
                case 0: x.root(a[0], a[1], a[2], a[3]); return "";
                case 1: x.number(a[0], a[1]); return "";
                case 2: x.move(a[0], a[1], a[2]); return "";
                case 3: return said(x.narrow(a[0], a[1], a[2]));
                case 4: return said(x.restrict(a[0], a[1], a[2]));
                case 5: return "" + x.seal(a[0], a[1], a[2]);
                case 6: return "" + x.unseal(a[0], a[1], a[2]);
                case 7: return "" + x.allows(a[0], a[1], a[2], a[3]);
                case 8: return said(x.within(a[0], a[1]));
                case 9: return "" + x.part(a[0], a[1]);
                default: return "" + x.count(a[0], a[1]);
            }
        } catch (RuntimeException e) {
            return e.getClass().getSimpleName();
        }
    }

    private static final String[] NAMES = {
        "root", "number", "move", "narrow", "restrict", "seal", "unseal", "allows", "within", "part", "count"};
    // What each argument is: a grant (G), a place or a length (P), permissions (M), a part (W).
    private static final String[] KINDS = {
        "GPPM", "GP", "GGP", "GGP", "GGM", "GGG", "GGG", "GPPM", "GG", "GW", "PM"};
    // Root, seal and unseal come more often, so that the grants of a run stay worth asking about.
    private static final int[] OFTEN = {0, 0, 0, 0, 1, 2, 2, 3, 4, 5, 5, 5, 6, 6, 6, 7, 7, 8, 9, 10};

    private static int argument(Random random, char kind) {
        boolean odd = random.nextInt(40) == 0;
        int edge = EDGES[random.nextInt(EDGES.length)];
        switch (kind) {
            case 'G': return odd ? edge : random.nextInt(6);
            case 'M': return odd ? edge : random.nextInt(256) | (random.nextBoolean() ? 96 : 0);
            case 'W': return odd ? edge : random.nextInt(6);
            default: return random.nextInt(3) == 0 ? edge : random.nextInt(12);
        }
    }

    private static String whole(GrantMath x) {
        List<String> all = new ArrayList<>();
        for (int i = 0; i < 16 * 6; i++) {
            all.add("" + x.part(i / 6, i % 6));
        }
        return String.join(" ", all);
    }

    private String whole() {
        List<String> all = new ArrayList<>();
        for (int i = 0; i < 16 * 6; i++) {
            all.add(part(i / 6, i % 6));
        }
        return String.join(" ", all);
    }

    /** Whether a run, told by its number, went as the model says. */
    private static boolean goesAsDue(int run, Set<String> met) {
        Random random = new Random(run);
        GrantMath x = new GrantMath();
        GrantMathModel model = new GrantMathModel();
        for (int i = 0; i < CALLS; i++) {
            int call = OFTEN[random.nextInt(OFTEN.length)];
            int[] a = new int[KINDS[call].length()];
            for (int k = 0; k < a.length; k++) {
                a[k] = argument(random, KINDS[call].charAt(k));
            }
            String want = model.answer(call, a);
            String got = answerOf(x, call, a);
            if (call != PART && call != COUNT) {
                met.add(NAMES[call] + " " + want);
            }
            if (!got.equals(want)) {
                System.out.println("run " + run + ", call " + i + ": " + NAMES[call] + Arrays.toString(a)
                        + " answered " + got + ", due is " + want);
                return false;
            }
        }
        String end = whole(x);
        if (!end.equals(model.whole())) {
            System.out.println("run " + run + " ends with " + end + ", due is " + model.whole());
            return false;
        }
        return true;
    }

    public static void main(String[] args) {
        int wrong = 0;
        Set<String> met = new TreeSet<>();
        for (int run = 0; run < RUNS; run++) {
            if (!goesAsDue(run, met)) {
                wrong++;
            }
        }
        // Runs that never meet one of a call's outcomes test less than they seem to.
        if (met.size() != OUTCOMES) {
            wrong++;
            System.out.println("the runs met " + met.size() + " outcomes, not " + OUTCOMES + ": " + met);
        }
        System.out.println(wrong == 0 ? "all runs go as the model" : wrong + " faults");
        if (wrong != 0) {
            System.exit(1);
        }
    }
}
