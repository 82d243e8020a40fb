import java.util.Arrays;

/**
 * What the tests of the document's sentences share. Each sentence is tested alone and on new objects, so that
 * no object comes near the 512 calls that the document promises.
 */
abstract class Sentences {
    static final int ADDRESS = 0;
    static final int BASE = 1;
    static final int TOP = 2;
    static final int PERMISSIONS = 3;
    static final int TYPE = 4;
    static final int TAG = 5;

    static final int SEAL = 32;
    static final int UNSEAL = 64;

    // 2^31 - 1 and 2^31: the two neighbours that a comparison with sign puts the wrong way round.
    static final int MIDDLE = Integer.MAX_VALUE;
    static final int ABOVE_MIDDLE = Integer.MIN_VALUE;
    static final int HIGHEST = -1;

    static final int[] NO_GRANTS = {-1, 16, Integer.MIN_VALUE, Integer.MAX_VALUE};

    private static String sentence = "";
    private static int sentences = 0;
    private static int checks = 0;
    private static int wrong = 0;

    interface Step {
        void run();
    }

    /** Tests one sentence: where it stands, its words, and the test that fails if it is broken. */
    static void sentence(String where, String words, Step test) {
        sentence = where + ", \"" + words + "\"";
        sentences++;
        int before = checks;
        try {
            test.run();
        } catch (RuntimeException e) {
            tellWrong("a call threw " + e.getClass().getSimpleName());
        }
        if (checks == before) {
            tellWrong("nothing was looked at");
        }
    }

    private static void tellWrong(String what) {
        wrong++;
        System.out.println(sentence + ": " + what);
    }

    static void due(String what, Object got, Object want) {
        checks++;
        if (!got.equals(want)) {
            tellWrong(what + " answered " + got + ", due is " + want);
        }
    }

    private static void dueThrow(String what, Class<?> want, Step call) {
        String got = "no throw";
        try {
            call.run();
        } catch (RuntimeException e) {
            got = e.getClass().getSimpleName();
        }
        due(what, got, want.getSimpleName());
    }

    static void dueIllegal(String what, Step call) {
        dueThrow(what, IllegalArgumentException.class, call);
    }

    static void dueOutside(String what, Step call) {
        dueThrow(what, IndexOutOfBoundsException.class, call);
    }

    /** What is due of grant r: ADDRESS, BASE, TOP, PERMISSIONS, TYPE and TAG. */
    static void dueGrant(String what, GrantMath x, int r, int... want) {
        int[] got = new int[6];
        for (int i = 0; i < got.length; i++) {
            got[i] = x.part(r, i);
        }
        due(what, Arrays.toString(got), Arrays.toString(want));
    }

    /** Every part of every grant (96 calls). */
    static String whole(GrantMath x) {
        StringBuilder all = new StringBuilder();
        for (int i = 0; i < 16 * 6; i++) {
            all.append(x.part(i / 6, i % 6)).append(' ');
        }
        return all.toString();
    }

    /**
     * Makes grant r of ADDRESS, BASE, TOP, PERMISSIONS, TYPE and TAG, whatever they are. It leaves the other
     * grants as they are, but for 15, which is as in a new object afterwards.
     */
    static void make(GrantMath x, int r, int... parts) {
        if (parts[TAG] == 0 && parts[TYPE] == 0) {
            makeOpenWithoutTag(x, r, parts);
        } else {
            x.root(r, parts[BASE], parts[TOP], parts[PERMISSIONS]);
        }
        x.move(r, r, parts[ADDRESS] - parts[BASE]);
        if (parts[TYPE] != 0) {
            x.root(15, parts[TYPE], parts[TYPE] + 1, SEAL);
            x.seal(r, r, 15);
            x.number(15, 0);
        }
        if (parts[TAG] == 0 && parts[TYPE] != 0) {
            // There and back: a sealed grant loses its tag on the way.
            x.move(r, r, 1);
            x.move(r, r, -1);
        }
        dueGrant("a grant that the test makes", x, r, parts);
    }

    private static void makeOpenWithoutTag(GrantMath x, int r, int[] parts) {
        // Narrowing takes the tag, for the address is outside these first bounds.
        int elsewhere = parts[BASE] ^ 1;
        x.root(r, elsewhere, elsewhere, parts[PERMISSIONS]);
        x.move(r, r, parts[BASE] - elsewhere);
        x.narrow(r, r, parts[TOP] - parts[BASE]);
    }

    static GrantMath with(int r, int... parts) {
        GrantMath x = new GrantMath();
        make(x, r, parts);
        return x;
    }

    static void end() {
        System.out.println(wrong == 0 ? sentences + " sentences hold" : wrong + " answers are not as due");
        if (wrong != 0) {
            System.exit(1);
        }
    }
}
