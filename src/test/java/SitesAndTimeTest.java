/** Promises 7 to 10: fallSilent, comeBack, pass, setPatience. */
public final class SitesAndTimeTest {
    private SitesAndTimeTest() {
    }

    public static void main(String[] args) {
        promise7FallSilent();
        promise8ComeBack();
        promise8ComeBackDecides();
        promise8And7Refusals();
        promise9PassCountsPatience();
        promise9PassAsksInOrder();
        promise9PassSkipsSilentSites();
        promise9PassCountsMembersOfEachDeal();
        promise9PassRefusals();
        promise10SetPatience();
        promise10SetPatienceRefusals();
        Checks.end("SitesAndTimeTest");
    }

    private static void promise7FallSilent() {
        DealDoubts d = new DealDoubts();
        d.begin(0, 3, 0);
        d.begin(0, 3, 1);
        d.begin(0, 3, 2);
        d.vote(0, 1, true);
        d.vote(2, 1, true);
        Checks.due("7: in doubt about two deals", d.fallSilent(1), 2);
        Checks.due("7: isUp(1)", d.isUp(1), false);
        Checks.due("7: isUp(0)", d.isUp(0), true);
        Checks.due("7: state(0, 1)", d.state(0, 1), 1);
        Checks.due("7: state(1, 1)", d.state(1, 1), 0);
        Checks.due("7: held(1)", d.held(1), 5);
        Checks.due("7: patience(0, 1)", d.patience(0, 1), 3);
        Checks.dueLog("7: its log stays", d, 1, 1, 21);
        Checks.due("7: in doubt about no deal", d.fallSilent(5), 0);
        Checks.due("7: savedStates()", d.savedStates(), 6);
        d.undo();
        Checks.due("7: isUp(5) after undo", d.isUp(5), true);
        Checks.due("7: savedStates() after undo", d.savedStates(), 5);
    }

    private static void promise8ComeBack() {
        DealDoubts d = new DealDoubts();
        d.begin(0, 6, 0);
        d.begin(0, 6, 1);
        d.begin(0, 6, 2);
        d.begin(0, 9, 3);
        d.vote(1, 1, true);
        d.fallSilent(1);
        Checks.due("8: two deals are dropped", d.comeBack(1), 2);
        Checks.due("8: isUp(1)", d.isUp(1), true);
        Checks.dueLog("8: in ascending order", d, 1, 11, 3, 23);
        Checks.due("8: state(0, 1)", d.state(0, 1), 3);
        Checks.due("8: state(1, 1)", d.state(1, 1), 1);
        Checks.due("8: state(2, 1)", d.state(2, 1), 3);
        Checks.due("8: state(0, 2)", d.state(0, 2), 0);
        Checks.due("8: patience(1, 1)", d.patience(1, 1), 3);
        d.fallSilent(5);
        Checks.due("8: a site without deals", d.comeBack(5), 0);
        Checks.due("8: savedStates()", d.savedStates(), 6);
    }

    private static void promise8ComeBackDecides() {
        DealDoubts d = new DealDoubts();
        d.begin(2, 5, 0);
        d.begin(2, 3, 0);
        d.begin(2, 12, 0);
        d.begin(3, 12, 0);
        d.decide(1);
        d.vote(2, 2, true);
        d.vote(2, 3, false);
        d.fallSilent(2);
        Checks.due("8: a leader, and a member", d.comeBack(2), 4);
        Checks.dueLog("8: the member's end, then the decision", d, 2, 16, 21, 3, 6, 26, 33);
        Checks.due("8: decision(0)", d.decision(0), 3);
        Checks.due("8: decision(1)", d.decision(1), 3);
        Checks.due("8: decision(2)", d.decision(2), 3);
        Checks.due("8: decision(3)", d.decision(3), 0);
        Checks.due("8: it stays in doubt", d.state(2, 2), 1);
        Checks.due("8: the others stay", d.state(0, 0), 0);
        d.fallSilent(2);
        Checks.due("8: nothing more", d.comeBack(2), 0);
        DealDoubts e = new DealDoubts();
        e.begin(0, 6, 0);
        e.vote(0, 1, false);
        e.vote(0, 2, false);
        e.fallSilent(0);
        Checks.due("8: a deal that is not open", e.comeBack(0), 1);
        Checks.dueLog("8: a deal that is not open", e, 0, 6);
    }

    private static void promise8And7Refusals() {
        DealDoubts d = new DealDoubts();
        Checks.refused("7: site -1", d, Checks.INDEX, () -> d.fallSilent(-1));
        Checks.refused("7: site 6", d, Checks.INDEX, () -> d.fallSilent(6));
        Checks.refused("8: site -1", d, Checks.INDEX, () -> d.comeBack(-1));
        Checks.refused("8: site 6", d, Checks.INDEX, () -> d.comeBack(6));
        Checks.refused("8: it is up", d, Checks.STATE, () -> d.comeBack(0));
        d.fallSilent(0);
        Checks.refused("7: it is silent", d, Checks.STATE, () -> d.fallSilent(0));
    }

    private static void promise9PassCountsPatience() {
        DealDoubts d = new DealDoubts();
        d.begin(5, 3, 0);
        d.vote(0, 0, true);
        d.vote(0, 1, true);
        d.fallSilent(5);
        Checks.due("9: one tick", d.pass(1), 0);
        Checks.due("9: patience after one tick", d.patience(0, 0), 2);
        Checks.due("9: asked() after one tick", d.asked(), 0);
        d.setPatience(20);
        Checks.due("9: two more", d.pass(2), 0);
        Checks.due("9: the patience of the settings again", d.patience(0, 0), 20);
        Checks.due("9: both ask four sites", d.asked(), 8);
        Checks.due("9: twenty more", d.pass(20), 0);
        Checks.due("9: both ask again", d.asked(), 16);
        Checks.due("9: savedStates()", d.savedStates(), 6);
        d.comeBack(5);
        Checks.due("9: until the leader has come back", d.pass(20), 2);
        Checks.dueStates("9", d, 0, 3, 3, -1, -1, -1, -1);
        Checks.due("9: the leader is asked last", d.asked(), 16 + 5 + 1);
    }

    private static void promise9PassAsksInOrder() {
        DealDoubts d = new DealDoubts();
        d.begin(5, 14, 0);
        d.vote(0, 1, true);
        d.vote(0, 2, true);
        Checks.due("9: two ticks", d.pass(2), 0);
        Checks.due("9: the third tick ends it for three", d.pass(1), 3);
        Checks.dueStates("9: asking ends it", d, 0, -1, 3, 3, 3, -1, -1);
        Checks.due("9: 0, 2 and 3; then 0 and 1", d.asked(), 5);
        Checks.due("9: the leader is not asked", d.decision(0), 0);
        Checks.dueLog("9: the asked member", d, 3, 3);
        Checks.dueLog("9: the asking member", d, 1, 1, 3);
        Checks.due("9: nothing more to end", d.pass(20), 0);
        Checks.due("9: nothing more to ask", d.asked(), 5);
        DealDoubts e = new DealDoubts();
        e.begin(0, 14, 0);
        e.vote(0, 1, true);
        e.vote(0, 2, true);
        e.vote(0, 3, true);
        e.decide(0);
        Checks.due("9: all are told to do it", e.pass(3), 3);
        Checks.dueStates("9: to do it", e, 0, -1, 2, 2, 2, -1, -1);
        Checks.due("9: each asks the leader first", e.asked(), 3);
    }

    private static void promise9PassSkipsSilentSites() {
        DealDoubts d = new DealDoubts();
        d.begin(0, 14, 0);
        d.vote(0, 1, true);
        d.vote(0, 2, true);
        d.pass(1);
        d.fallSilent(0);
        d.fallSilent(2);
        d.fallSilent(3);
        Checks.due("9: nobody helps", d.pass(2), 0);
        Checks.due("9: the others that are up are asked", d.asked(), 2);
        Checks.due("9: the patience of the one that is up", d.patience(0, 1), 3);
        Checks.due("9: the patience of the silent one", d.patience(0, 2), 2);
        d.comeBack(3);
        Checks.due("9: its answer is found", d.pass(3), 1);
        Checks.dueStates("9: the silent one stays in doubt", d, 0, -1, 3, 1, 3, -1, -1);
        d.comeBack(2);
        d.setPatience(9);
        Checks.due("9: it goes on with its patience", d.pass(1), 0);
        Checks.due("9: and asks when it is 0", d.pass(1), 1);
        Checks.due("9: asked()", d.asked(), 2 + 1 + 1);
    }

    private static void promise9PassCountsMembersOfEachDeal() {
        DealDoubts d = new DealDoubts();
        d.setPatience(1);
        d.begin(0, 6, 0);
        d.begin(0, 6, 1);
        d.vote(0, 1, true);
        d.vote(1, 1, true);
        d.vote(1, 2, true);
        Checks.due("9: a site counts for each deal that it ends", d.pass(1), 3);
        Checks.dueLog("9: deals in ascending order", d, 1, 1, 11, 3, 13);
        Checks.dueLog("9: the leader of both", d, 0, 6, 16);
        Checks.due("9: asked()", d.asked(), 3);
        Checks.due("9: the working member is not asked", d.state(0, 2), 0);
    }

    private static void promise9PassRefusals() {
        DealDoubts d = new DealDoubts();
        Checks.refused("9: 0 ticks", d, Checks.ARGUMENT, () -> d.pass(0));
        Checks.refused("9: -1 ticks", d, Checks.ARGUMENT, () -> d.pass(-1));
        Checks.refused("9: 21 ticks", d, Checks.ARGUMENT, () -> d.pass(21));
        Checks.refused("9: many ticks", d, Checks.ARGUMENT, () -> d.pass(Integer.MAX_VALUE));
        Checks.due("9: 20 ticks without deals", d.pass(20), 0);
        Checks.due("9: saved even if nothing changes", d.savedStates(), 1);
    }

    private static void promise10SetPatience() {
        DealDoubts d = new DealDoubts();
        d.begin(0, 3, 0);
        d.vote(0, 0, true);
        Checks.due("10: 3 at first", d.setPatience(20), 3);
        Checks.due("10: the previous one", d.setPatience(1), 20);
        Checks.due("10: a patience that counts already stays", d.patience(0, 0), 3);
        d.vote(0, 1, true);
        Checks.due("10: a new one", d.patience(0, 1), 1);
        Checks.due("10: the same again", d.setPatience(1), 1);
        Checks.due("10: savedStates()", d.savedStates(), 6);
        d.undo();
        d.undo();
        d.undo();
        Checks.due("10: undo brings it back", d.setPatience(2), 20);
    }

    private static void promise10SetPatienceRefusals() {
        DealDoubts d = new DealDoubts();
        Checks.refused("10: 0", d, Checks.ARGUMENT, () -> d.setPatience(0));
        Checks.refused("10: -1", d, Checks.ARGUMENT, () -> d.setPatience(-1));
        Checks.refused("10: 21", d, Checks.ARGUMENT, () -> d.setPatience(21));
        Checks.due("10: it stays", d.setPatience(5), 3);
    }
}
