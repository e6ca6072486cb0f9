import java.math.BigInteger;
import java.util.ArrayList;
import java.util.List;

/** Promises 31 to 33: undo, savedStates, digest. */
final class BoundaryOfUndo extends Bounds {
    private static final String SITES = "for each site 1 if it is up, otherwise 0, the items that it holds, the length "
        + "of its log, and the entries of its log";
    private static final String DEALS = "for each deal its leader, its decision, and for each site its state, its "
        + "patience, and what helper() returns";

    private BoundaryOfUndo() {
    }

    static void all() {
        undo();
        undoRefusals();
        whatUndoBringsBack();
        savedStates();
        whatIsSaved();
        digest();
        digestLists();
        digestChangesNothing();
    }

    private static DealDoubts passed(int calls) {
        DealDoubts d = new DealDoubts();
        for (int call = 0; call < calls; call++) {
            d.pass(1);
        }
        return d;
    }

    private static void undo() {
        holds(31, "Returns the number of saved states that are left.", () -> {
            for (int calls = 1; calls <= 8; calls++) {
                DealDoubts d = passed(calls);
                for (int left = Math.min(calls, 6) - 1; left >= 0; left--) {
                    due("undo() after " + calls, d.undo(), left);
                }
            }
        });
        holds(31, "Restores the state that was saved last, and removes it from the saved states.", () -> {
            DealDoubts d = new DealDoubts();
            long[] digests = new long[7];
            for (int call = 0; call < 6; call++) {
                digests[call] = d.digest();
                d.fallSilent(call);
            }
            for (int call = 5; call >= 0; call--) {
                d.undo();
                due("digest() before call " + call, d.digest(), digests[call]);
                due("isUp(" + call + ")", d.isUp(call), true);
                due("savedStates()", d.savedStates(), call);
            }
        });
        holds(31, "At most 6 states are saved; when one more is saved, the oldest one is discarded.", () -> {
            for (int calls = 5; calls <= 14; calls++) {
                DealDoubts d = new DealDoubts();
                for (int call = 0; call < calls; call++) {
                    d.setPatience(call + 4);
                }
                int undone = Math.min(calls, 6);
                for (int call = 0; call < undone; call++) {
                    d.undo();
                }
                due("savedStates() after as many undo()", d.savedStates(), 0);
                int due = calls - undone == 0 ? 3 : calls - undone + 3;
                due("the patience before the last six of " + calls, d.setPatience(1), due);
            }
        });
    }

    private static void undoRefusals() {
        holds(31, "Throws `IllegalStateException` if no state is saved", () -> {
            refused("undo() of a new object", STATE, EMPTY, DealDoubts::undo);
            refused("undo() after undo()", STATE, () -> undone(passed(1), 1), DealDoubts::undo);
            refused("a seventh undo()", STATE, () -> undone(passed(20), 6), DealDoubts::undo);
            refused("a seventh undo() in a full world", STATE, () -> undone(Worlds.full(), 6), DealDoubts::undo);
            refused("a seventh undo() in a rich world", STATE, () -> undone(Worlds.rich(), 6), DealDoubts::undo);
            answers("the sixth undo()", () -> undone(Worlds.full(), 5), DealDoubts::undo, 0);
            answers("undo() after a call", () -> undone(passed(20), 6), d -> last(d.pass(1), d.undo()), 0);
        });
        holds(31, "A call that throws an exception changes nothing.", () ->
            refused("a seventh undo()", STATE, () -> undone(Worlds.full(), 6), DealDoubts::undo));
    }

    private static DealDoubts undone(DealDoubts d, int times) {
        for (int time = 0; time < times; time++) {
            d.undo();
        }
        return d;
    }

    private static void whatUndoBringsBack() {
        holds(31, "The state consists of everything except the buffer and the saved states.", () -> {
            World five = () -> undone(Worlds.rich(), 1);
            undoable("pass(20)", five, d -> d.pass(20));
            undoable("comeBack(4)", () -> undone(Worlds.rich(), 2), d -> d.comeBack(4));
            undoable("setPatience(20)", five, d -> d.setPatience(20));
            undoable("begin", five, d -> d.begin(0, 3, 1));
            DealDoubts d = new DealDoubts();
            d.fallSilent(0);
            d.append('u');
            d.undo();
            due("the buffer of now stays", d.clearText(), 1);
            d.append('x');
            d.append('1');
            d.run();
            d.undo();
            due("the buffer of before does not come back", d.clearText(), 0);
            d.append('t');
            d.pass(1);
            d.clearText();
            d.undo();
            due("nor does one that was cleared", d.clearText(), 0);
            DealDoubts e = undone(Worlds.full(), 6);
            due("a full buffer stays", e.clearText(), 60);
        });
        holds(31, "Each method that is marked \"Undoable\" saves the state", () -> {
            answers("undo() saves nothing", () -> passed(6), d -> last(d.undo(), d.undo(), d.savedStates()), 4);
            answers("undo() of the call before undo()", EMPTY, d -> {
                d.fallSilent(0);
                d.fallSilent(1);
                d.undo();
                d.fallSilent(2);
                d.undo();
                d.undo();
                return d.isUp(0) && d.isUp(1) && d.isUp(2) ? d.savedStates() : -1;
            }, 0);
        });
    }

    private static void savedStates() {
        holds(32, "Returns the number of saved states, 0 to 6.", () -> {
            for (int calls = 0; calls <= 20; calls++) {
                due("savedStates() after " + calls, passed(calls).savedStates(), Math.min(calls, 6));
            }
            for (int times = 0; times <= 6; times++) {
                due("savedStates() after undo", undone(passed(20), times).savedStates(), 6 - times);
            }
            changesNothing("savedStates()", EMPTY, DealDoubts::savedStates);
            changesNothing("savedStates()", FULL, DealDoubts::savedStates);
        });
        holds(32, "At most 6 states are saved", () -> {
            answers("savedStates() of a full world", FULL, DealDoubts::savedStates, 6);
            answers("after one more call", FULL, d -> last(d.tell(0, 4), d.savedStates()), 6);
            answers("after undo and two calls", FULL, d -> last(d.undo(), d.pass(1), d.pass(1), d.savedStates()), 6);
        });
    }

    private static void whatIsSaved() {
        holds(32, "if it does not throw an exception, even if nothing changes", () -> {
            answers("pass(1) without deals", EMPTY, d -> last(d.pass(1), d.savedStates()), 1);
            answers("setPatience(3) at first", EMPTY, d -> last(d.setPatience(3), d.savedStates()), 1);
            answers("tell() of one that has ended it", () -> Worlds.deal(5, 3, 0),
                d -> last(d.vote(0, 0, false), d.decide(0), d.tell(0, 0), d.savedStates()), 4);
            answers("ask() of one in doubt", () -> Worlds.deal(5, 3, 3), d -> last(d.ask(0, 0, 1), d.savedStates()), 4);
            refused("pass(0)", ARGUMENT, EMPTY, d -> d.pass(0));
            refused("setPatience(0)", ARGUMENT, EMPTY, d -> d.setPatience(0));
            refused("comeBack(0)", STATE, EMPTY, d -> d.comeBack(0));
            refused("tell(0, 0)", STATE, () -> Worlds.deal(5, 3, 0), d -> d.tell(0, 0));
            refused("ask(0, 0, 1)", STATE, () -> Worlds.deal(5, 3, 0), d -> d.ask(0, 0, 1));
            refused("decide(2)", STATE, RICH, d -> d.decide(2));
        });
    }

    /** The list of the document, read by the calls that it names. */
    private static List<Integer> values(DealDoubts d) {
        List<Integer> values = new ArrayList<>(List.of(d.deals(), d.open(), d.stuck(), d.asked()));
        for (int site = 0; site < 6; site++) {
            values.add(d.isUp(site) ? 1 : 0);
            values.add(d.held(site));
            values.add(d.logLength(site));
            for (int index = 0; index < d.logLength(site); index++) {
                values.add(d.log(site, index));
            }
        }
        for (int deal = 0; deal < d.deals(); deal++) {
            values.add(d.leader(deal));
            values.add(d.decision(deal));
            for (int site = 0; site < 6; site++) {
                values.addAll(List.of(d.state(deal, site), d.patience(deal, site), d.helper(deal, site)));
            }
        }
        return values;
    }

    /** The hash in whole numbers without a limit. */
    private static BigInteger hashOf(List<Integer> values) {
        BigInteger hash = BigInteger.valueOf(4431);
        for (int value : values) {
            hash = hash.multiply(BigInteger.valueOf(31)).add(BigInteger.valueOf(value));
        }
        return hash;
    }

    private static void dueDigest(String what, World world) {
        answers("digest() " + what, world, DealDoubts::digest, hashOf(values(world.make())).longValue());
    }

    private static void digest() {
        holds(33, "in long arithmetic with overflow", () -> {
            // Four values, and three of each site: the hash of a new object overflows already.
            BigInteger hash = hashOf(values(new DealDoubts()));
            due("the hash needs more than 64 bits", hash.bitLength() > 64, true);
            due("digest() keeps the last 64 bits", new DealDoubts().digest(), hash.longValue());
            boolean isBelow = false;
            boolean isAbove = false;
            for (int deals = 0; deals <= 8; deals++) {
                isBelow |= Worlds.working(deals).digest() < 0;
                isAbove |= Worlds.working(deals).digest() > 0;
            }
            due("it wraps around to negative and to positive numbers", isBelow && isAbove, true);
        });
        holds(33, "The hash starts at 4431.", () -> {
            long hash = 4431;
            for (int value : new int[] {0, 0, 0, 0, 1, 0, 0, 1, 0, 0, 1, 0, 0, 1, 0, 0, 1, 0, 0, 1, 0, 0}) {
                hash = 31 * hash + value;
            }
            answers("digest() of a new object", EMPTY, DealDoubts::digest, hash);
        });
        holds(33, "For each value v of the following list, in order, the hash becomes 31 * hash + v", () -> {
            dueDigest("of a new object", EMPTY);
            dueDigest("of a rich world", RICH);
            dueDigest("of a full world", FULL);
            dueDigest("when all are silent", () -> Worlds.silent(Worlds.inDoubt(8), 0, 1, 2, 3, 4, 5));
        });
        holds(33, "Returns the hash.", () -> {
            DealDoubts d = Worlds.rich();
            due("digest() twice", d.digest() - d.digest(), 0);
            due("digest() of another object that was made so", Worlds.rich().digest(), d.digest());
        });
    }

    private static void digestLists() {
        holds(33, "The values are: what deals(), open(), stuck() and asked() return", () -> {
            dueDigest("with eight deals", () -> Worlds.working(8));
            dueDigest("with no open deal", () -> Worlds.dropped(8));
            dueDigest("with eight deals that are stuck", () -> Worlds.silent(Worlds.inDoubt(8), 5));
            dueDigest("with a question that changes nothing else", () -> {
                DealDoubts d = Worlds.deal(5, 3, 3);
                d.ask(0, 0, 1);
                return d;
            });
        });
        holds(33, SITES, () -> {
            dueDigest("with all items held", () -> Worlds.inDoubt(8));
            dueDigest("with a full log", FULL);
            for (int site = 0; site < 6; site++) {
                int silent = site;
                dueDigest("with silent " + site, () -> Worlds.silent(new DealDoubts(), silent));
            }
        });
        holds(33, DEALS, () -> {
            for (int site = 0; site < 6; site++) {
                int leader = site;
                dueDigest("with the leader " + site, () -> Worlds.deal(leader, Worlds.ALL & ~(1 << leader), 0));
                dueDigest("with " + site + " in doubt", () -> Worlds.deal(5, Worlds.ALL, 1 << leader));
            }
            dueDigest("with eight decisions", () -> Worlds.decided(8));
            dueDigest("with a patience of 1", () -> {
                DealDoubts d = Worlds.inDoubt(8);
                d.pass(2);
                return d;
            });
        });
    }

    private static void digestChangesNothing() {
        holds(33, "Computes a hash of the state.", () -> {
            changesNothing("digest()", EMPTY, DealDoubts::digest);
            changesNothing("digest()", RICH, DealDoubts::digest);
            changesNothing("digest()", FULL, DealDoubts::digest);
            long due = new DealDoubts().digest();
            answers("with text", EMPTY, d -> last(d.append('x'), d.digest()), due);
            answers("with a saved state", EMPTY, d -> last(d.pass(1), d.digest()), due);
            answers("with other settings", EMPTY, d -> last(d.setPatience(20), d.digest()), due);
            answers("with an item that nobody holds", EMPTY, d -> last(d.begin(5, 3, 9), d.digest()),
                Worlds.deal(5, 3, 0).digest());
        });
    }
}
