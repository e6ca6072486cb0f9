import java.util.function.LongSupplier;

/** What the tests share: comparing answers, and looking at all that an object shows. */
final class Checks {
    static final Class<? extends RuntimeException> INDEX = IndexOutOfBoundsException.class;
    static final Class<? extends RuntimeException> ARGUMENT = IllegalArgumentException.class;
    static final Class<? extends RuntimeException> STATE = IllegalStateException.class;

    private static int compared = 0;
    private static int wrong = 0;

    private Checks() {
    }

    static void due(String call, long got, long want) {
        compared++;
        if (got != want) {
            fail(call + " answered " + got + ", due is " + want);
        }
    }

    static void due(String call, boolean got, boolean want) {
        due(call, got ? 1 : 0, want ? 1 : 0);
    }

    static void dueShare(String call, double got, double want) {
        compared++;
        if (Double.compare(got, want) != 0) {
            fail(call + " answered " + got + ", due is " + want);
        }
    }

    static void fail(String text) {
        wrong++;
        System.out.println(text);
    }

    /** The call must throw just this exception, and leave all that the object shows as it was. */
    static void refused(String call, DealDoubts object, Class<? extends RuntimeException> kind, LongSupplier action) {
        compared++;
        String before = sight(object);
        try {
            fail(call + " answered " + action.getAsLong() + ", due is " + kind.getSimpleName());
        } catch (RuntimeException e) {
            if (e.getClass() != kind) {
                fail(call + " threw " + e.getClass().getName() + ", due is " + kind.getSimpleName());
            }
        }
        if (!sight(object).equals(before)) {
            fail(call + " threw and changed the object");
        }
    }

    /** All that an object shows by calls that change nothing. */
    static String sight(DealDoubts object) {
        return object.digest() + " " + object.savedStates() + " " + object.firstError() + " " + object.doubtShare()
                + shownDeals(object) + shownSites(object);
    }

    private static String shownDeals(DealDoubts object) {
        StringBuilder shown = new StringBuilder();
        for (int deal = 0; deal < object.deals(); deal++) {
            shown.append(" | ").append(object.leader(deal)).append(' ').append(object.decision(deal));
            for (int site = 0; site < 6; site++) {
                shown.append(' ').append(object.state(deal, site)).append(' ').append(object.patience(deal, site));
                shown.append(' ').append(object.reason(deal, site));
            }
        }
        return shown.toString();
    }

    private static String shownSites(DealDoubts object) {
        StringBuilder shown = new StringBuilder();
        for (int site = 0; site < 6; site++) {
            shown.append(" | ").append(object.isUp(site)).append(' ').append(object.held(site));
        }
        return shown.toString();
    }

    static void append(DealDoubts object, String text) {
        for (int i = 0; i < text.length(); i++) {
            object.append(text.charAt(i));
        }
    }

    static int[] log(DealDoubts object, int site) {
        int[] entries = new int[object.logLength(site)];
        for (int i = 0; i < entries.length; i++) {
            entries[i] = object.log(site, i);
        }
        return entries;
    }

    static void dueLog(String what, DealDoubts object, int site, int... want) {
        compared++;
        int[] got = log(object, site);
        if (!java.util.Arrays.equals(got, want)) {
            fail(what + ": the log of site " + site + " is " + java.util.Arrays.toString(got)
                    + ", due is " + java.util.Arrays.toString(want));
        }
    }

    static void dueStates(String what, DealDoubts object, int deal, int... want) {
        for (int site = 0; site < want.length; site++) {
            due(what + ": state(" + deal + ", " + site + ")", object.state(deal, site), want[site]);
        }
    }

    /** The last line of a test's main method. */
    static void end(String test) {
        System.out.println(test + ": " + compared + " answers compared, " + wrong + " wrong");
        if (wrong != 0 || compared == 0) {
            System.exit(1);
        }
    }
}
