import java.util.function.LongSupplier;

/** What the tests share: comparing answers, and looking whether an object has changed. */
final class Checks {
    static final Class<? extends RuntimeException> INDEX = IndexOutOfBoundsException.class;
    static final Class<? extends RuntimeException> ARGUMENT = IllegalArgumentException.class;
    static final Class<? extends RuntimeException> STATE = IllegalStateException.class;

    private static int compared = 0;
    private static int wrong = 0;
    private static String subject = "";

    private Checks() {
    }

    static void due(String call, long got, long want) {
        compared++;
        if (got != want) {
            fail(call + " answered " + got + ", due is " + want);
        }
    }

    static void due(String call, boolean got, boolean want) {
        due(call, got ? 1 : 0, want ? 1 : 0);
    }

    static void dueShare(String call, double got, double want) {
        compared++;
        if (Double.compare(got, want) != 0) {
            fail(call + " answered " + got + ", due is " + want);
        }
    }

    static void fail(String text) {
        wrong++;
        System.out.println(subject + text);
    }

    /** What the next answers are about; it stands before each line that tells a wrong one. */
    static void about(String words) {
        subject = words;
    }

    /** The call must throw just this exception, and leave all that the object shows as it was. */
    static void refused(String call, DealDoubts object, Class<? extends RuntimeException> kind, LongSupplier action) {
        compared++;
        String before = sight(object);
        try {
            fail(call + " answered " + action.getAsLong() + ", due is " + kind.getSimpleName());
        } catch (RuntimeException e) {
            if (e.getClass() != kind) {
                fail(call + " threw " + e.getClass().getName() + ", due is " + kind.getSimpleName());
            }
        }
        if (!sight(object).equals(before)) {
            fail(call + " threw and changed the object");
        }
    }

    /**
     * What an object shows by four calls; few, because an object is good for 512 calls and no more.
     * Sight looks at all the rest.
     */
    static String sight(DealDoubts object) {
        return object.digest() + " " + object.savedStates() + " " + object.firstError() + " " + object.doubtShare();
    }

    static void append(DealDoubts object, String text) {
        for (int i = 0; i < text.length(); i++) {
            object.append(text.charAt(i));
        }
    }

    static int[] log(DealDoubts object, int site) {
        int[] entries = new int[object.logLength(site)];
        for (int i = 0; i < entries.length; i++) {
            entries[i] = object.log(site, i);
        }
        return entries;
    }

    static void dueLog(String what, DealDoubts object, int site, int... want) {
        compared++;
        int[] got = log(object, site);
        if (!java.util.Arrays.equals(got, want)) {
            fail(what + ": the log of site " + site + " is " + java.util.Arrays.toString(got)
                    + ", due is " + java.util.Arrays.toString(want));
        }
    }

    static void dueStates(String what, DealDoubts object, int deal, int... want) {
        for (int site = 0; site < want.length; site++) {
            due(what + ": state(" + deal + ", " + site + ")", object.state(deal, site), want[site]);
        }
    }

    /** The last line of a test's main method. */
    static void end(String test) {
        System.out.println(test + ": " + compared + " answers compared, " + wrong + " wrong");
        if (wrong != 0 || compared == 0) {
            System.exit(1);
        }
    }
}
