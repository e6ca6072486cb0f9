/** Promises 31 to 33: undo, savedStates, digest. */
public final class UndoTest {
    private UndoTest() {
    }

    public static void main(String[] args) {
        promise31UndoOfEachCall();
        promise31UndoGoesBackInOrder();
        promise31UndoKeepsTheBuffer();
        promise31UndoThenOtherCalls();
        promise31UndoRefusals();
        promise32SavedStates();
        promise32Refused();
        promise33DigestOfANewObject();
        promise33DigestOfDeals();
        promise33WhatDigestLeavesOut();
        Checks.end("UndoTest");
    }

    private interface Step {
        int of(DealDoubts object);
    }

    private static DealDoubts prepared() {
        DealDoubts d = new DealDoubts();
        d.begin(3, 7, 0);
        d.begin(4, 7, 1);
        d.vote(0, 0, true);
        d.vote(0, 1, true);
        d.decide(1);
        d.fallSilent(5);
        return d;
    }

    private static void promise31UndoOfEachCall() {
        Step[] steps = {
            d -> d.begin(0, 24, 9),
            d -> d.vote(0, 2, true),
            d -> d.vote(1, 2, false),
            d -> d.decide(0),
            d -> d.tell(1, 0),
            d -> d.ask(0, 0, 2),
            d -> d.ask(0, 0, 3),
            d -> d.ask(0, 0, 1),
            d -> d.fallSilent(0),
            d -> d.comeBack(5),
            d -> d.pass(20),
            d -> d.setPatience(9),
        };
        for (int i = 0; i < steps.length; i++) {
            DealDoubts d = prepared();
            String before = Checks.sight(d);
            steps[i].of(d);
            Checks.due("31: savedStates() after step " + i, d.savedStates(), 6);
            boolean isSeen = !Checks.sight(d).equals(before);
            Checks.due("31: step " + i + " is seen", isSeen, i != steps.length - 1);
            Checks.due("31: undo() of step " + i, d.undo(), 5);
            // This changes nothing, but there are six saved states again.
            Checks.due("31: the patience of the settings after step " + i, d.setPatience(3), 3);
            Checks.due("31: the state before step " + i, Checks.sight(d).equals(before), true);
        }
    }

    private static void promise31UndoGoesBackInOrder() {
        DealDoubts d = new DealDoubts();
        long[] digests = new long[10];
        for (int call = 0; call < 10; call++) {
            digests[call] = d.digest();
            if (call == 8) {
                d.comeBack(0);
            } else if (call % 2 == 0) {
                d.fallSilent(call / 2);
            } else {
                d.begin(5, 48, call);
            }
        }
        for (int left = 5; left >= 0; left--) {
            Checks.due("31: undo()", d.undo(), left);
            Checks.due("31: digest() with " + left + " left", d.digest(), digests[4 + left]);
            Checks.due("32: savedStates()", d.savedStates(), left);
        }
        Checks.refused("31: the oldest ones are discarded", d, Checks.STATE, d::undo);
    }

    private static void promise31UndoKeepsTheBuffer() {
        DealDoubts d = new DealDoubts();
        d.fallSilent(0);
        Checks.append(d, "u0;d");
        d.undo();
        Checks.due("31: the buffer stays", d.clearText(), 4);
        Checks.append(d, "x1");
        d.run();
        Checks.append(d, "x2");
        d.undo();
        Checks.due("31: undo of run keeps the buffer of now", d.clearText(), 2);
        Checks.due("31: undo of run", d.isUp(1), true);
    }

    private static void promise31UndoThenOtherCalls() {
        DealDoubts d = new DealDoubts();
        d.begin(5, 7, 3);
        d.vote(0, 0, true);
        d.setPatience(8);
        d.vote(0, 1, true);
        d.pass(7);
        d.undo();
        Checks.due("31: patience(0, 0) after undo of pass", d.patience(0, 0), 3);
        Checks.due("31: asked() after undo of pass", d.asked(), 0);
        d.undo();
        Checks.due("31: state(0, 1) after undo", d.state(0, 1), 0);
        Checks.due("31: logLength(1) after undo", d.logLength(1), 0);
        Checks.due("31: vote anew", d.vote(0, 1, false), 3);
        Checks.dueLog("31: its log", d, 1, 3);
        Checks.due("31: undo of it", d.undo(), 3);
        Checks.due("31: once more", d.undo(), 2);
        Checks.due("31: the patience of the settings", d.setPatience(5), 3);
    }

    private static void promise31UndoRefusals() {
        DealDoubts d = new DealDoubts();
        Checks.refused("31: nothing is saved", d, Checks.STATE, d::undo);
        d.pass(1);
        d.undo();
        Checks.refused("31: nothing is left", d, Checks.STATE, d::undo);
        Checks.due("31: undo does not save", d.savedStates(), 0);
    }

    private static void promise32SavedStates() {
        DealDoubts d = new DealDoubts();
        for (int call = 1; call <= 8; call++) {
            d.pass(1);
            Checks.due("32: after call " + call, d.savedStates(), Math.min(call, 6));
        }
        d.undo();
        Checks.due("32: after undo", d.savedStates(), 5);
        d.append('x');
        d.append('0');
        Checks.due("32: append saves nothing", d.savedStates(), 5);
        d.run();
        Checks.due("32: run saves one", d.savedStates(), 6);
    }

    private static void promise32Refused() {
        DealDoubts d = new DealDoubts();
        Checks.refused("32: begin", d, Checks.ARGUMENT, () -> d.begin(0, 0, 0));
        Checks.refused("32: pass", d, Checks.ARGUMENT, () -> d.pass(0));
        Checks.refused("32: run", d, Checks.ARGUMENT, d::run);
        Checks.due("32: refused calls save nothing", d.savedStates(), 0);
    }

    private static long hashOf(long... values) {
        long hash = 4431;
        for (long value : values) {
            hash = 31 * hash + value;
        }
        return hash;
    }

    private static void promise33DigestOfANewObject() {
        DealDoubts d = new DealDoubts();
        long due = hashOf(0, 0, 0, 0, 1, 0, 0, 1, 0, 0, 1, 0, 0, 1, 0, 0, 1, 0, 0, 1, 0, 0);
        Checks.due("33: a new object", d.digest(), due);
        Checks.due("33: once more", d.digest(), due);
    }

    private static void promise33DigestOfDeals() {
        DealDoubts d = new DealDoubts();
        d.begin(5, 3, 4);
        d.begin(0, 6, 9);
        d.vote(0, 0, true);
        d.vote(0, 1, true);
        d.vote(1, 1, true);
        d.decide(1);
        d.pass(1);
        d.ask(0, 0, 1);
        d.fallSilent(5);
        d.vote(1, 2, false);
        long due = hashOf(2, 2, 1, 1,
            1, 16, 2, 1, 16,
            1, 528, 2, 1, 11,
            1, 0, 1, 13,
            1, 0, 0,
            1, 0, 0,
            0, 0, 0,
            5, 0, 1, 2, -1, 1, 2, -1, -1, -1, -1, -1, -1, -1, -1, -1, -1, -1, -1, -1,
            0, 3, -1, -1, -1, 1, 2, 0, 3, -1, -1, -1, -1, -1, -1, -1, -1, -1, -1, -1);
        Checks.due("33: two deals", d.digest(), due);
    }

    private static void promise33WhatDigestLeavesOut() {
        DealDoubts d = new DealDoubts();
        d.begin(5, 3, 4);
        long due = d.digest();
        d.setPatience(17);
        d.append('x');
        Checks.due("33: settings, buffer and saved states", d.digest(), due);
        DealDoubts e = new DealDoubts();
        e.begin(5, 3, 8);
        Checks.due("33: an item that nobody holds", e.digest(), due);
        d.vote(0, 0, true);
        e.vote(0, 0, true);
        Checks.due("33: an item that is held", e.digest() != d.digest(), true);
    }
}
