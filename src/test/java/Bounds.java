import java.util.HashMap;
import java.util.Map;

/** What the boundary tests share: a test for a sentence of the document, edges, and refused calls. */
abstract class Bounds {
    static final Class<? extends RuntimeException> INDEX = Checks.INDEX;
    static final Class<? extends RuntimeException> ARGUMENT = Checks.ARGUMENT;
    static final Class<? extends RuntimeException> STATE = Checks.STATE;

    static final int LEAST = Integer.MIN_VALUE;
    static final int MOST = Integer.MAX_VALUE;
    // 32 and 37 would be the sites 0 and 5 for a shift that wraps around.
    static final int[] NO_SITES = {-1, 6, 7, 32, 37, -32, LEAST, MOST};

    static final World EMPTY = DealDoubts::new;
    static final World RICH = Worlds::rich;
    static final World FULL = Worlds::full;

    private static final Map<World, String> SIGHTS = new HashMap<>();

    interface World {
        DealDoubts make();
    }

    interface Deals {
        DealDoubts make(int deals);
    }

    interface Call {
        long on(DealDoubts d);
    }

    interface SiteCall {
        long on(DealDoubts d, int site);
    }

    interface DealCall {
        long on(DealDoubts d, int deal);
    }

    interface PlaceCall {
        long on(DealDoubts d, int deal, int site);
    }

    interface Test {
        void check();
    }

    /** One test, for one sentence (or a case in it) of one promise; Terms are tested for a promise too. */
    static void holds(int promise, String sentence, Test test) {
        Checks.about("promise " + promise + ", \"" + sentence + "\": ");
        Sentences.name(promise, sentence);
        try {
            test.check();
        } catch (RuntimeException e) {
            Checks.fail("a call threw " + e);
        }
        Checks.about("");
    }

    static void due(String call, long got, long want) {
        Checks.due(call, got, want);
    }

    static void due(String call, boolean got, boolean want) {
        Checks.due(call, got, want);
    }

    static void dueLog(String what, DealDoubts d, int site, int... want) {
        Checks.dueLog(what, d, site, want);
    }

    /** The answer of the last one of some calls. */
    static long last(long... answers) {
        return answers[answers.length - 1];
    }

    /** The answers of some calls, as the digits of one number. */
    static long inRow(long... answers) {
        long number = 0;
        for (long answer : answers) {
            number = 10 * number + answer;
        }
        return number;
    }

    /** What a call answers on a new object of this world. */
    static void answers(String told, World world, Call call, long want) {
        try {
            due(told, call.on(world.make()), want);
        } catch (RuntimeException e) {
            Checks.fail(told + " threw " + e + ", due is " + want);
        }
    }

    /** The call throws just this exception, and all that the object shows is as it was. */
    static void refused(String told, Class<? extends RuntimeException> kind, World world, Call call) {
        dueThrown(told, kind, world, call);
        String before = SIGHTS.computeIfAbsent(world, key -> Sight.of(key::make));
        due(told + " leaves all as it was", Sight.of(() -> afterTrying(world, call)).equals(before), true);
    }

    /** The call throws just this exception. */
    static void dueThrown(String told, Class<? extends RuntimeException> kind, World world, Call call) {
        String thrown = "nothing";
        try {
            call.on(world.make());
        } catch (RuntimeException e) {
            thrown = e.getClass().getSimpleName();
        }
        due(told + " threw " + thrown + ", due is " + kind.getSimpleName(), thrown.equals(kind.getSimpleName()), true);
    }

    private static DealDoubts afterTrying(World world, Call call) {
        DealDoubts d = world.make();
        try {
            call.on(d);
        } catch (RuntimeException e) {
            // Only what it leaves behind is looked at.
        }
        return d;
    }

    /** A query leaves all as it was. */
    static void changesNothing(String told, World world, Call call) {
        String before = SIGHTS.computeIfAbsent(world, key -> Sight.of(key::make));
        due(told + " leaves all as it was", Sight.of(() -> afterTrying(world, call)).equals(before), true);
    }

    /** The call saves one state, which undo brings back; the world has less than six saved states. */
    static void undoable(String told, World world, Call call) {
        DealDoubts d = world.make();
        int saved = d.savedStates();
        due(told + ": there is room for a saved state", saved < 6, true);
        call.on(d);
        due(told + ": savedStates()", d.savedStates(), saved + 1);
        due(told + ": undo()", d.undo(), saved);
        boolean isSame = Sight.of(() -> undone(world, call)).equals(Sight.of(world::make));
        due(told + " leaves all as it was after undo", isSame, true);
    }

    private static DealDoubts undone(World world, Call call) {
        DealDoubts d = world.make();
        call.on(d);
        d.undo();
        return d;
    }

    /** Each of the six sites is taken, and what lies on both sides of them is refused. */
    static void siteEdges(String call, World world, SiteCall sites, long want) {
        for (int site = 0; site < 6; site++) {
            int there = site;
            answers(call + " of site " + site, world, d -> sites.on(d, there), want);
        }
        noSuchSites(call, world, sites);
    }

    static void noSuchSites(String call, World world, SiteCall sites) {
        for (int site : NO_SITES) {
            refused(call + " of site " + site, INDEX, world, d -> sites.on(d, site));
        }
    }

    /** The first and the last deal are taken, and what lies on both sides of them is refused. */
    static void dealEdges(String call, Deals worlds, DealCall calls, long want) {
        for (int deals : new int[] {0, 1, 7, 8}) {
            World world = () -> worlds.make(deals);
            for (int deal = 0; deal < deals; deal++) {
                int there = deal;
                answers(call + " of deal " + deal + " of " + deals, world, d -> calls.on(d, there), want);
            }
            noSuchDeals(call, deals, world, calls);
        }
    }

    static void noSuchDeals(String call, int deals, World world, DealCall calls) {
        for (int deal : new int[] {-1, deals, deals + 1, 8, LEAST, MOST}) {
            refused(call + " of deal " + deal + " of " + deals, INDEX, world, d -> calls.on(d, deal));
        }
    }

    /** The three sentences that many calls share; the call answers the same for each deal and site of these worlds. */
    static void dealAndSite(int promise, String call, Deals worlds, PlaceCall places, long want) {
        holds(promise, "`deal`: the number of a deal", () ->
            dealEdges(call, worlds, (d, deal) -> places.on(d, deal, 3), want));
        holds(promise, "`site`: 0 to 5", () ->
            siteEdges(call, () -> worlds.make(2), (d, site) -> places.on(d, 1, site), want));
        holds(promise, "Throws `IndexOutOfBoundsException` if there is no such deal or site", () -> {
            for (World world : new World[] {RICH, FULL}) {
                noSuchDeals(call, world.make().deals(), world, (d, deal) -> places.on(d, deal, 0));
                noSuchSites(call, world, (d, site) -> places.on(d, 0, site));
                refused(call + " without deal and site", INDEX, world, d -> places.on(d, -1, 6));
            }
        });
    }

    static void site(int promise, String call, World world, SiteCall sites, long want) {
        holds(promise, "`site`: 0 to 5", () -> siteEdges(call, world, sites, want));
        holds(promise, "Throws `IndexOutOfBoundsException` if there is no such site", () -> {
            noSuchSites(call, RICH, sites);
            noSuchSites(call, FULL, sites);
        });
    }

    static void deal(int promise, String call, Deals worlds, DealCall deals, long want) {
        holds(promise, "`deal`: the number of a deal", () -> dealEdges(call, worlds, deals, want));
        holds(promise, "Throws `IndexOutOfBoundsException` if there is no such deal", () -> {
            noSuchDeals(call, 0, EMPTY, deals);
            noSuchDeals(call, 4, RICH, deals);
            noSuchDeals(call, 8, FULL, deals);
        });
    }
}
