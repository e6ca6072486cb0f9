/** Promises 11 to 23: the queries. */
public final class QueriesTest {
    private QueriesTest() {
    }

    public static void main(String[] args) {
        promise11Deals();
        promise12IsUp();
        promise13State();
        promise14Decision();
        promise15Leader();
        promise16Patience();
        promise17Open();
        promise18Stuck();
        promise18StuckDeals();
        promise19And20Log();
        promise20LogIsFull();
        promise21Held();
        promise22Asked();
        promise23DoubtShare();
        queriesSaveNothing();
        Checks.end("QueriesTest");
    }

    private static void promise11Deals() {
        DealDoubts d = new DealDoubts();
        d.begin(0, 3, 0);
        d.begin(0, 3, 0);
        d.vote(0, 0, false);
        d.vote(0, 1, false);
        Checks.due("11: ended deals count", d.deals(), 2);
        d.undo();
        d.undo();
        d.undo();
        Checks.due("11: after undo", d.deals(), 1);
    }

    private static void promise12IsUp() {
        DealDoubts d = new DealDoubts();
        d.fallSilent(0);
        d.fallSilent(5);
        Checks.due("12: isUp(0)", d.isUp(0), false);
        Checks.due("12: isUp(1)", d.isUp(1), true);
        Checks.due("12: isUp(5)", d.isUp(5), false);
        d.comeBack(5);
        Checks.due("12: isUp(5) again", d.isUp(5), true);
        Checks.refused("12: site -1", d, Checks.INDEX, () -> d.isUp(-1) ? 1 : 0);
        Checks.refused("12: site 6", d, Checks.INDEX, () -> d.isUp(6) ? 1 : 0);
    }

    private static void promise13State() {
        DealDoubts d = new DealDoubts();
        Checks.refused("13: no deal at all", d, Checks.INDEX, () -> d.state(0, 0));
        d.begin(5, 15, 0);
        d.vote(0, 1, true);
        d.vote(0, 2, false);
        Checks.dueStates("13", d, 0, 0, 1, 3, 0, -1, -1);
        DealDoubts e = new DealDoubts();
        e.begin(0, 3, 0);
        e.vote(0, 0, true);
        e.vote(0, 1, true);
        e.decide(0);
        e.tell(0, 1);
        Checks.dueStates("13: done", e, 0, 1, 2, -1, -1, -1, -1);
        Checks.refused("13: deal -1", d, Checks.INDEX, () -> d.state(-1, 0));
        Checks.refused("13: deal 1", d, Checks.INDEX, () -> d.state(1, 0));
        Checks.refused("13: site -1", d, Checks.INDEX, () -> d.state(0, -1));
        Checks.refused("13: site 6", d, Checks.INDEX, () -> d.state(0, 6));
    }

    private static void promise14Decision() {
        DealDoubts d = new DealDoubts();
        d.begin(0, 3, 0);
        d.begin(0, 3, 1);
        Checks.due("14: none", d.decision(0), 0);
        d.decide(0);
        d.vote(1, 0, true);
        d.vote(1, 1, true);
        d.decide(1);
        Checks.due("14: to drop it", d.decision(0), 3);
        Checks.due("14: to do it", d.decision(1), 2);
        Checks.refused("14: deal -1", d, Checks.INDEX, () -> d.decision(-1));
        Checks.refused("14: deal 2", d, Checks.INDEX, () -> d.decision(2));
    }

    private static void promise15Leader() {
        DealDoubts d = new DealDoubts();
        d.begin(5, 3, 0);
        d.begin(0, 3, 1);
        Checks.due("15: leader(0)", d.leader(0), 5);
        Checks.due("15: leader(1)", d.leader(1), 0);
        Checks.refused("15: deal -1", d, Checks.INDEX, () -> d.leader(-1));
        Checks.refused("15: deal 2", d, Checks.INDEX, () -> d.leader(2));
    }

    private static void promise16Patience() {
        DealDoubts d = new DealDoubts();
        d.begin(5, 7, 0);
        Checks.due("16: working", d.patience(0, 0), -1);
        d.vote(0, 0, true);
        d.vote(0, 1, false);
        Checks.due("16: in doubt", d.patience(0, 0), 3);
        Checks.due("16: dropped", d.patience(0, 1), -1);
        Checks.due("16: no member", d.patience(0, 3), -1);
        d.pass(2);
        Checks.due("16: after two ticks", d.patience(0, 0), 1);
        d.fallSilent(0);
        Checks.due("16: silent and in doubt", d.patience(0, 0), 1);
        d.comeBack(0);
        d.ask(0, 0, 5);
        Checks.due("16: no longer in doubt", d.patience(0, 0), -1);
        Checks.refused("16: deal -1", d, Checks.INDEX, () -> d.patience(-1, 0));
        Checks.refused("16: deal 1", d, Checks.INDEX, () -> d.patience(1, 0));
        Checks.refused("16: site -1", d, Checks.INDEX, () -> d.patience(0, -1));
        Checks.refused("16: site 6", d, Checks.INDEX, () -> d.patience(0, 6));
    }

    private static void promise17Open() {
        DealDoubts d = new DealDoubts();
        d.begin(5, 3, 0);
        d.begin(5, 6, 1);
        Checks.due("17: working", d.open(), 2);
        d.vote(0, 0, false);
        d.vote(1, 1, true);
        Checks.due("17: one is working, or in doubt", d.open(), 2);
        d.vote(0, 1, false);
        Checks.due("17: all have dropped it", d.open(), 1);
        d.vote(1, 2, false);
        Checks.due("17: one is in doubt", d.open(), 1);
        d.fallSilent(1);
        Checks.due("17: it is silent", d.open(), 1);
        d.comeBack(1);
        d.decide(1);
        Checks.due("17: a decision does not end it", d.open(), 1);
        d.tell(1, 1);
        Checks.due("17: all have ended", d.open(), 0);
        for (int last = 0; last < 6; last++) {
            DealDoubts e = new DealDoubts();
            e.begin(5, 63, 0);
            for (int site = 0; site < 6; site++) {
                if (site != last) {
                    e.vote(0, site, false);
                }
            }
            Checks.due("17: only site " + last + " is working", e.open(), 1);
            e.vote(0, last, true);
            Checks.due("17: only site " + last + " is in doubt", e.open(), 1);
            e.ask(0, last, (last + 1) % 6);
            Checks.due("17: none is", e.open(), 0);
        }
    }

    private static void promise18Stuck() {
        DealDoubts d = new DealDoubts();
        d.begin(5, 7, 0);
        Checks.due("18: nobody is in doubt", d.stuck(), 0);
        d.vote(0, 0, true);
        Checks.due("18: the leader helps", d.stuck(), 0);
        d.fallSilent(5);
        Checks.due("18: a working member helps", d.stuck(), 0);
        d.vote(0, 1, true);
        d.vote(0, 2, true);
        Checks.due("18: nobody helps", d.stuck(), 1);
        d.fallSilent(0);
        d.fallSilent(1);
        Checks.due("18: one that is up is in doubt", d.stuck(), 1);
        d.fallSilent(2);
        Checks.due("18: all that are in doubt are silent", d.stuck(), 0);
        d.comeBack(5);
        d.comeBack(0);
        Checks.due("18: the leader is back", d.stuck(), 0);
    }

    private static void promise18StuckDeals() {
        DealDoubts d = new DealDoubts();
        d.begin(0, 3, 0);
        d.begin(0, 5, 1);
        d.begin(2, 6, 2);
        d.vote(0, 0, true);
        d.vote(0, 1, true);
        d.vote(1, 2, true);
        d.vote(2, 1, true);
        d.vote(2, 2, true);
        Checks.due("18: the leader in doubt has no helper, the other has", d.stuck(), 0);
        d.fallSilent(1);
        Checks.due("18: only the leader in doubt is up", d.stuck(), 2);
        d.fallSilent(0);
        Checks.due("18: the third deal, and the second one", d.stuck(), 2);
        d.fallSilent(2);
        Checks.due("18: nobody is up", d.stuck(), 0);
    }

    private static void promise19And20Log() {
        DealDoubts d = new DealDoubts();
        d.begin(0, 3, 0);
        d.begin(0, 3, 1);
        d.vote(1, 0, true);
        d.vote(0, 0, false);
        d.decide(1);
        d.tell(1, 0);
        Checks.due("19: logLength(0)", d.logLength(0), 4);
        Checks.due("19: logLength(1)", d.logLength(1), 0);
        int[] due = {11, 3, 16, 13};
        for (int index = 0; index < due.length; index++) {
            Checks.due("20: log(0, " + index + ")", d.log(0, index), due[index]);
        }
        Checks.due("20: just behind the last", d.log(0, 4), -1);
        Checks.due("20: far behind the last", d.log(0, Integer.MAX_VALUE), -1);
        Checks.due("20: an empty log", d.log(5, 0), -1);
        d.undo();
        Checks.due("19: after undo", d.logLength(0), 3);
        Checks.due("20: after undo", d.log(0, 3), -1);
        d.fallSilent(0);
        Checks.due("19: silent", d.logLength(0), 3);
        Checks.due("20: silent", d.log(0, 2), 16);
        Checks.refused("19: site -1", d, Checks.INDEX, () -> d.logLength(-1));
        Checks.refused("19: site 6", d, Checks.INDEX, () -> d.logLength(6));
        Checks.refused("20: site -1", d, Checks.INDEX, () -> d.log(-1, 0));
        Checks.refused("20: site 6", d, Checks.INDEX, () -> d.log(6, 0));
        Checks.refused("20: index -1", d, Checks.INDEX, () -> d.log(0, -1));
        Checks.refused("20: the least index", d, Checks.INDEX, () -> d.log(5, Integer.MIN_VALUE));
    }

    private static void promise20LogIsFull() {
        DealDoubts d = new DealDoubts();
        for (int deal = 0; deal < 8; deal++) {
            d.begin(5, 48, deal);
            d.vote(deal, 5, true);
            d.vote(deal, 4, true);
            d.decide(deal);
            d.tell(deal, 5);
        }
        Checks.due("19: three entries for each deal", d.logLength(5), 24);
        for (int deal = 0; deal < 8; deal++) {
            Checks.due("20: yes", d.log(5, 3 * deal), 10 * deal + 1);
            Checks.due("20: decision", d.log(5, 3 * deal + 1), 10 * deal + 5);
            Checks.due("20: done", d.log(5, 3 * deal + 2), 10 * deal + 2);
        }
        Checks.due("20: no more", d.log(5, 24), -1);
        Checks.due("19: the other member", d.logLength(4), 8);
    }

    private static void promise21Held() {
        DealDoubts d = new DealDoubts();
        d.begin(5, 3, 0);
        d.begin(5, 3, 9);
        d.begin(5, 3, 4);
        Checks.due("21: working", d.held(0), 0);
        d.vote(0, 0, true);
        d.vote(1, 0, true);
        d.vote(2, 0, false);
        Checks.due("21: in doubt", d.held(0), 513);
        Checks.due("21: another site", d.held(1), 0);
        d.fallSilent(0);
        Checks.due("21: silent", d.held(0), 513);
        d.comeBack(0);
        d.ask(1, 0, 5);
        Checks.due("21: dropped", d.held(0), 1);
        Checks.refused("21: site -1", d, Checks.INDEX, () -> d.held(-1));
        Checks.refused("21: site 6", d, Checks.INDEX, () -> d.held(6));
    }

    private static void promise22Asked() {
        DealDoubts d = new DealDoubts();
        d.begin(5, 7, 0);
        d.vote(0, 0, true);
        d.vote(0, 1, true);
        d.ask(0, 0, 1);
        d.ask(0, 0, 3);
        Checks.due("22: also without effect", d.asked(), 2);
        d.helper(0, 0);
        d.stuck();
        d.ticksToEnd(0, 0);
        Checks.due("22: forecasts do not ask", d.asked(), 2);
        d.fallSilent(2);
        d.pass(3);
        Checks.due("22: 1, 3, 4 and 5; then 0", d.asked(), 7);
        Checks.refused("22: a refused question", d, Checks.STATE, () -> d.ask(0, 0, 1));
        Checks.due("22: does not count", d.asked(), 7);
        d.undo();
        Checks.due("22: undo takes questions back", d.asked(), 2);
        Checks.append(d, "a014;a013;a012;a012");
        d.run();
        Checks.due("22: questions of an action text", d.asked(), 4);
    }

    private static void promise23DoubtShare() {
        DealDoubts d = new DealDoubts();
        Checks.dueShare("23: no deals", d.doubtShare(), 0.0);
        d.begin(5, 3, 0);
        Checks.dueShare("23: nobody in doubt", d.doubtShare(), 0.0);
        d.vote(0, 0, true);
        Checks.dueShare("23: one of two", d.doubtShare(), 0.5);
        d.begin(5, 31, 1);
        Checks.dueShare("23: one of seven", d.doubtShare(), 1.0 / 7.0);
        d.vote(1, 0, true);
        d.vote(1, 1, false);
        Checks.dueShare("23: a site counts for each deal", d.doubtShare(), 2.0 / 7.0);
        d.fallSilent(0);
        Checks.dueShare("23: silent ones count", d.doubtShare(), 2.0 / 7.0);
        d.begin(5, 6, 1);
        d.vote(2, 1, true);
        d.vote(2, 2, true);
        Checks.dueShare("23: four of nine", d.doubtShare(), 4.0 / 9.0);
        DealDoubts e = new DealDoubts();
        e.begin(0, 3, 0);
        e.vote(0, 0, true);
        e.vote(0, 1, true);
        Checks.dueShare("23: all", e.doubtShare(), 1.0);
    }

    private static void queriesSaveNothing() {
        DealDoubts d = new DealDoubts();
        d.begin(5, 3, 0);
        d.vote(0, 0, true);
        String before = Checks.sight(d);
        d.open();
        d.asked();
        d.log(0, 0);
        d.ticksToEnd(0, 0);
        d.ticksToEnd(0, 1);
        d.append(33);
        d.clearText();
        Checks.due("11 to 29: savedStates()", d.savedStates(), 2);
        Checks.due("11 to 29: nothing changes", Checks.sight(d).equals(before), true);
    }
}
