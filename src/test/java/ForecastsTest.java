/** Promises 24 to 26: reason, helper, ticksToEnd. */
public final class ForecastsTest {
    private ForecastsTest() {
    }

    public static void main(String[] args) {
        promise24Reason();
        promise24ReasonRefusals();
        promise25HelperIsLeader();
        promise25HelperIsMember();
        promise25NoHelper();
        promise25HelperRefusals();
        promise26TicksOfOne();
        promise26TicksOfAnAskedMember();
        promise26NoTicks();
        promise26FortyTicks();
        promise26Refusals();
        Checks.end("ForecastsTest");
    }

    private static void promise24Reason() {
        DealDoubts d = new DealDoubts();
        d.begin(5, 7, 4);
        d.begin(5, 11, 4);
        d.begin(5, 3, 5);
        Checks.due("24: it would be in doubt", d.reason(0, 0), 0);
        Checks.due("24: the leader is no member", d.reason(0, 5), 1);
        d.vote(0, 0, true);
        Checks.due("24: in doubt already", d.reason(0, 0), 3);
        Checks.due("24: it holds the item", d.reason(1, 0), 4);
        Checks.due("24: another item", d.reason(2, 0), 0);
        Checks.due("24: another site", d.reason(1, 1), 0);
        d.vote(0, 2, false);
        Checks.due("24: dropped", d.reason(0, 2), 3);
        d.fallSilent(0);
        d.fallSilent(4);
        Checks.due("24: silent, and in doubt", d.reason(0, 0), 2);
        Checks.due("24: silent, and holding", d.reason(1, 0), 2);
        Checks.due("24: silent, and no member", d.reason(1, 4), 1);
        d.vote(1, 1, true);
        Checks.due("24: it holds the item for a later deal", d.reason(0, 1), 4);
        d.ask(1, 1, 5);
        Checks.due("24: it no longer holds it", d.reason(0, 1), 0);
    }

    private static void promise24ReasonRefusals() {
        DealDoubts d = new DealDoubts();
        Checks.refused("24: no deal at all", d, Checks.INDEX, () -> d.reason(0, 0));
        d.begin(5, 7, 4);
        Checks.refused("24: deal -1", d, Checks.INDEX, () -> d.reason(-1, 0));
        Checks.refused("24: deal 1", d, Checks.INDEX, () -> d.reason(1, 0));
        Checks.refused("24: site -1", d, Checks.INDEX, () -> d.reason(0, -1));
        Checks.refused("24: site 6", d, Checks.INDEX, () -> d.reason(0, 6));
    }

    private static void promise25HelperIsLeader() {
        DealDoubts d = new DealDoubts();
        d.begin(1, 13, 4);
        d.vote(0, 0, true);
        d.vote(0, 2, true);
        d.vote(0, 3, true);
        Checks.due("25: the leader that is no member", d.helper(0, 0), 1);
        Checks.due("25: nothing is decided by that", d.decision(0), 0);
        d.decide(0);
        Checks.due("25: a leader with a decision", d.helper(0, 3), 1);
        d.fallSilent(1);
        Checks.due("25: a silent leader", d.helper(0, 3), -1);
        DealDoubts e = new DealDoubts();
        e.begin(2, 7, 4);
        e.vote(0, 0, true);
        e.vote(0, 1, true);
        e.vote(0, 2, true);
        Checks.due("25: a leader that is in doubt", e.helper(0, 0), 2);
        Checks.due("25: the leader itself", e.helper(0, 2), -1);
    }

    private static void promise25HelperIsMember() {
        DealDoubts d = new DealDoubts();
        d.begin(5, 31, 4);
        d.vote(0, 0, true);
        d.vote(0, 1, true);
        Checks.due("25: a working member", d.helper(0, 0), 2);
        Checks.due("25: another one asks the same", d.helper(0, 1), 2);
        d.fallSilent(2);
        Checks.due("25: the next working member", d.helper(0, 0), 3);
        d.vote(0, 3, false);
        d.vote(0, 4, false);
        Checks.due("25: a member that has dropped it", d.helper(0, 0), 3);
        d.fallSilent(3);
        Checks.due("25: the least number that is up", d.helper(0, 0), 4);
        d.ask(0, 0, 4);
        Checks.due("25: a lesser number than its own", d.helper(0, 1), 0);
        Checks.due("25: its doubt has ended", d.helper(0, 0), -1);
    }

    private static void promise25NoHelper() {
        DealDoubts d = new DealDoubts();
        d.begin(5, 7, 4);
        Checks.due("25: working", d.helper(0, 0), -1);
        Checks.due("25: no member", d.helper(0, 3), -1);
        Checks.due("25: the leader", d.helper(0, 5), -1);
        d.vote(0, 0, true);
        d.vote(0, 1, true);
        d.fallSilent(1);
        Checks.due("25: silent", d.helper(0, 1), -1);
        Checks.due("25: up", d.helper(0, 0), 2);
        d.vote(0, 2, true);
        d.fallSilent(5);
        Checks.due("25: all are in doubt", d.helper(0, 0), -1);
        Checks.due("25: forecasts are not saved", d.savedStates(), 6);
    }

    private static void promise25HelperRefusals() {
        DealDoubts d = new DealDoubts();
        Checks.refused("25: no deal at all", d, Checks.INDEX, () -> d.helper(0, 0));
        d.begin(5, 7, 4);
        Checks.refused("25: deal -1", d, Checks.INDEX, () -> d.helper(-1, 0));
        Checks.refused("25: deal 1", d, Checks.INDEX, () -> d.helper(1, 0));
        Checks.refused("25: site -1", d, Checks.INDEX, () -> d.helper(0, -1));
        Checks.refused("25: site 6", d, Checks.INDEX, () -> d.helper(0, 6));
    }

    private static void promise26TicksOfOne() {
        DealDoubts d = new DealDoubts();
        d.begin(0, 6, 4);
        d.vote(0, 1, true);
        String before = Checks.sight(d);
        Checks.due("26: three ticks", d.ticksToEnd(0, 1), 3);
        Checks.due("26: a forecast changes nothing", Checks.sight(d).equals(before), true);
        Checks.due("26: asked()", d.asked(), 0);
        Checks.due("26: isUp(0)", d.isUp(0), true);
        Checks.due("26: decision(0)", d.decision(0), 0);
        d.pass(1);
        Checks.due("26: two ticks", d.ticksToEnd(0, 1), 2);
        d.pass(1);
        Checks.due("26: one tick", d.ticksToEnd(0, 1), 1);
        d.pass(1);
        Checks.due("26: ended now", d.ticksToEnd(0, 1), 0);
        d.vote(0, 2, false);
        Checks.due("26: ended by a vote", d.ticksToEnd(0, 2), 0);
        d.fallSilent(2);
        Checks.due("26: ended, and silent", d.ticksToEnd(0, 2), 0);
    }

    private static void promise26TicksOfAnAskedMember() {
        DealDoubts d = new DealDoubts();
        d.setPatience(4);
        d.begin(5, 7, 4);
        d.begin(5, 7, 5);
        Checks.due("26: nobody asks", d.ticksToEnd(1, 0), -1);
        d.vote(1, 2, true);
        Checks.due("26: a working member that is asked", d.ticksToEnd(1, 0), 4);
        Checks.due("26: one that need not be asked", d.ticksToEnd(1, 1), -1);
        Checks.due("26: in another deal", d.ticksToEnd(0, 0), -1);
        d.setPatience(2);
        d.vote(1, 1, true);
        Checks.due("26: another one asks it earlier", d.ticksToEnd(1, 0), 2);
        d.fallSilent(0);
        Checks.due("26: a silent member is not asked", d.ticksToEnd(1, 0), -1);
        Checks.due("26: the leader is", d.ticksToEnd(1, 1), 2);
    }

    private static void promise26NoTicks() {
        DealDoubts d = new DealDoubts();
        d.begin(5, 7, 4);
        Checks.due("26: no member", d.ticksToEnd(0, 3), -1);
        Checks.due("26: the leader is no member", d.ticksToEnd(0, 5), -1);
        Checks.due("26: working", d.ticksToEnd(0, 0), -1);
        d.vote(0, 0, true);
        d.vote(0, 1, true);
        d.vote(0, 2, true);
        d.fallSilent(1);
        Checks.due("26: silent", d.ticksToEnd(0, 1), -1);
        d.fallSilent(5);
        Checks.due("26: stuck", d.ticksToEnd(0, 0), -1);
        d.decide(d.begin(0, 12, 0));
        Checks.due("26: a decision alone ends nothing", d.ticksToEnd(1, 2), -1);
        d.vote(1, 3, true);
        Checks.due("26: the next forecast begins anew", d.ticksToEnd(1, 3), 3);
        Checks.due("26: and is the same again", d.ticksToEnd(1, 3), 3);
    }

    private static void promise26FortyTicks() {
        DealDoubts d = new DealDoubts();
        d.setPatience(20);
        d.begin(5, 7, 4);
        d.vote(0, 0, true);
        d.vote(0, 1, true);
        d.fallSilent(5);
        d.fallSilent(2);
        d.pass(20);
        d.comeBack(2);
        Checks.due("26: the patience of the settings", d.patience(0, 0), 20);
        Checks.due("26: twenty ticks", d.ticksToEnd(0, 0), 20);
        d.undo();
        d.undo();
        d.undo();
        Checks.due("26: in the first round", d.ticksToEnd(0, 1), 20);
        d.fallSilent(0);
        d.pass(5);
        d.comeBack(0);
        Checks.due("26: it asks later", d.ticksToEnd(0, 1), 15);
        Checks.due("26: it is asked, or asks", d.ticksToEnd(0, 0), 20);
    }

    private static void promise26Refusals() {
        DealDoubts d = new DealDoubts();
        Checks.refused("26: no deal at all", d, Checks.INDEX, () -> d.ticksToEnd(0, 0));
        d.begin(5, 7, 4);
        Checks.refused("26: deal -1", d, Checks.INDEX, () -> d.ticksToEnd(-1, 0));
        Checks.refused("26: deal 1", d, Checks.INDEX, () -> d.ticksToEnd(1, 0));
        Checks.refused("26: site -1", d, Checks.INDEX, () -> d.ticksToEnd(0, -1));
        Checks.refused("26: site 6", d, Checks.INDEX, () -> d.ticksToEnd(0, 6));
    }
}
