/** Promises 1 to 6: a new object, begin, vote, decide, tell, ask. */
public final class DealsTest {
    private DealsTest() {
    }

    public static void main(String[] args) {
        promise1NewObject();
        promise2Begin();
        promise2BeginLimits();
        promise2BeginRefusals();
        promise3Vote();
        promise3VoteOnHeldItems();
        promise3VoteRefusals();
        promise4Decide();
        promise4DecideRefusals();
        promise5Tell();
        promise5TellRefusals();
        promise6AskLeader();
        promise6AskMembers();
        promise6AskRefusals();
        Checks.end("DealsTest");
    }

    private static void promise1NewObject() {
        DealDoubts d = new DealDoubts();
        for (int site = 0; site < 6; site++) {
            Checks.due("1: isUp(" + site + ")", d.isUp(site), true);
            Checks.due("1: logLength(" + site + ")", d.logLength(site), 0);
            Checks.due("1: held(" + site + ")", d.held(site), 0);
        }
        Checks.due("1: deals()", d.deals(), 0);
        Checks.due("1: open()", d.open(), 0);
        Checks.due("1: stuck()", d.stuck(), 0);
        Checks.due("1: asked()", d.asked(), 0);
        Checks.due("1: savedStates()", d.savedStates(), 0);
        Checks.due("1: firstError()", d.firstError(), 0);
        Checks.due("1: clearText()", d.clearText(), 0);
        Checks.due("1: setPatience(3)", d.setPatience(3), 3);
        Checks.refused("1: state(0, 0)", d, Checks.INDEX, () -> d.state(0, 0));
    }

    private static void promise2Begin() {
        DealDoubts d = new DealDoubts();
        Checks.due("2: first begin", d.begin(5, 3, 9), 0);
        Checks.due("2: second begin", d.begin(1, 63, 0), 1);
        Checks.due("2: savedStates()", d.savedStates(), 2);
        Checks.due("2: leader(0)", d.leader(0), 5);
        Checks.due("2: leader(1)", d.leader(1), 1);
        Checks.due("2: decision(1)", d.decision(1), 0);
        Checks.dueStates("2", d, 0, 0, 0, -1, -1, -1, -1);
        Checks.dueStates("2", d, 1, 0, 0, 0, 0, 0, 0);
        d.vote(0, 0, true);
        Checks.due("2: the item is the one of begin", d.held(0), 1 << 9);
    }

    private static void promise2BeginLimits() {
        DealDoubts d = new DealDoubts();
        for (int deal = 0; deal < 8; deal++) {
            Checks.due("2: begin " + deal, d.begin(deal % 6, 48, deal), deal);
        }
        Checks.refused("2: a ninth deal", d, Checks.STATE, () -> d.begin(0, 3, 0));
        Checks.refused("2: a ninth deal with a bad item", d, Checks.ARGUMENT, () -> d.begin(0, 3, 10));
        d.undo();
        Checks.due("2: begin after undo", d.begin(0, 3, 0), 7);
        Checks.dueStates("2: after undo", d, 7, 0, 0, -1, -1, -1, -1);
    }

    private static void promise2BeginRefusals() {
        DealDoubts d = new DealDoubts();
        Checks.refused("2: leader -1", d, Checks.INDEX, () -> d.begin(-1, 0, 10));
        Checks.refused("2: leader 6", d, Checks.INDEX, () -> d.begin(6, 3, 0));
        Checks.refused("2: leader far off", d, Checks.INDEX, () -> d.begin(Integer.MIN_VALUE, 3, 0));
        int[] noMembers = {0, -1, 64, 65, 67, 1, 2, 4, 8, 16, 32, Integer.MAX_VALUE, Integer.MIN_VALUE + 3};
        for (int members : noMembers) {
            Checks.refused("2: members " + members, d, Checks.ARGUMENT, () -> d.begin(0, members, 0));
        }
        Checks.refused("2: item -1", d, Checks.ARGUMENT, () -> d.begin(0, 3, -1));
        Checks.refused("2: item 10", d, Checks.ARGUMENT, () -> d.begin(0, 3, 10));
        d.fallSilent(2);
        Checks.refused("2: a silent leader", d, Checks.STATE, () -> d.begin(2, 3, 0));
        Checks.refused("2: a silent member", d, Checks.STATE, () -> d.begin(0, 7, 0));
        Checks.refused("2: silent and no item", d, Checks.ARGUMENT, () -> d.begin(2, 7, 10));
        Checks.due("2: a silent site that does not take part", d.begin(0, 59, 0), 0);
    }

    private static void promise3Vote() {
        DealDoubts d = new DealDoubts();
        d.begin(0, 7, 4);
        Checks.due("3: yes", d.vote(0, 1, true), 1);
        Checks.due("3: no", d.vote(0, 2, false), 3);
        Checks.due("3: the leader as a member", d.vote(0, 0, true), 1);
        Checks.dueStates("3", d, 0, 1, 1, 3, -1, -1, -1);
        Checks.dueLog("3: yes", d, 1, 1);
        Checks.dueLog("3: no", d, 2, 3);
        Checks.due("3: patience of yes", d.patience(0, 1), 3);
        Checks.due("3: savedStates()", d.savedStates(), 4);
        d.setPatience(7);
        d.begin(3, 6, 4);
        Checks.due("3: no on the second deal", d.vote(1, 1, false), 3);
        Checks.due("3: yes on the second deal", d.vote(1, 2, true), 1);
        Checks.due("3: patience of the settings", d.patience(1, 2), 7);
        Checks.due("3: the patience of before", d.patience(0, 1), 3);
        Checks.dueLog("3: of two deals", d, 2, 3, 11);
        d.decide(1);
        d.begin(3, 6, 5);
        d.decide(2);
        Checks.due("3: yes after the decision", d.vote(2, 1, true), 1);
    }

    private static void promise3VoteOnHeldItems() {
        DealDoubts d = new DealDoubts();
        d.begin(0, 3, 4);
        d.begin(0, 3, 4);
        d.begin(0, 3, 5);
        d.vote(1, 0, true);
        Checks.due("3: the item is held for a later deal", d.vote(0, 0, true), 3);
        Checks.due("3: another item is not", d.vote(2, 0, true), 1);
        Checks.due("3: another site does not hold it", d.vote(0, 1, true), 1);
        Checks.dueLog("3: held", d, 0, 11, 3, 21);
        d.ask(1, 0, 1);
        d.begin(0, 3, 4);
        Checks.due("3: the item is free after the end", d.vote(3, 0, true), 1);
        Checks.due("3: it is held for an earlier deal", d.vote(3, 1, true), 3);
    }

    private static void promise3VoteRefusals() {
        DealDoubts d = new DealDoubts();
        Checks.refused("3: no deal at all", d, Checks.INDEX, () -> d.vote(0, 0, true));
        d.begin(0, 7, 4);
        Checks.refused("3: deal -1", d, Checks.INDEX, () -> d.vote(-1, 0, true));
        Checks.refused("3: deal 1", d, Checks.INDEX, () -> d.vote(1, 0, true));
        Checks.refused("3: deal 8", d, Checks.INDEX, () -> d.vote(8, 0, true));
        Checks.refused("3: site -1", d, Checks.INDEX, () -> d.vote(0, -1, true));
        Checks.refused("3: site 6", d, Checks.INDEX, () -> d.vote(0, 6, false));
        Checks.refused("3: no member", d, Checks.STATE, () -> d.vote(0, 3, true));
        d.vote(0, 1, true);
        Checks.refused("3: in doubt", d, Checks.STATE, () -> d.vote(0, 1, false));
        d.vote(0, 2, false);
        Checks.refused("3: dropped", d, Checks.STATE, () -> d.vote(0, 2, true));
        d.fallSilent(0);
        Checks.refused("3: silent", d, Checks.STATE, () -> d.vote(0, 0, true));
    }

    private static void promise4Decide() {
        DealDoubts d = new DealDoubts();
        d.begin(3, 3, 0);
        d.vote(0, 0, true);
        d.vote(0, 1, true);
        d.fallSilent(1);
        Checks.due("4: all in doubt, one of them silent", d.decide(0), 2);
        Checks.due("4: decision(0)", d.decision(0), 2);
        Checks.dueLog("4: to do it", d, 3, 5);
        Checks.due("4: savedStates()", d.savedStates(), 5);
        d.begin(0, 12, 0);
        d.vote(1, 2, true);
        Checks.due("4: one is working", d.decide(1), 3);
        Checks.due("4: decision(1)", d.decision(1), 3);
        Checks.dueLog("4: to drop it", d, 0, 1, 16);
        Checks.dueStates("4: nobody is told", d, 1, -1, -1, 1, 0, -1, -1);
        d.begin(3, 5, 9);
        d.vote(2, 0, true);
        d.vote(2, 2, false);
        Checks.due("4: one has dropped it", d.decide(2), 3);
        Checks.dueLog("4: the third deal", d, 3, 5, 26);
        for (int working = 0; working < 6; working++) {
            DealDoubts e = new DealDoubts();
            e.begin(5, 63, 0);
            for (int site = 0; site < 6; site++) {
                if (site != working) {
                    e.vote(0, site, true);
                }
            }
            Checks.due("4: only site " + working + " is working", e.decide(0), 3);
        }
    }

    private static void promise4DecideRefusals() {
        DealDoubts d = new DealDoubts();
        Checks.refused("4: no deal at all", d, Checks.INDEX, () -> d.decide(0));
        d.begin(3, 3, 0);
        Checks.refused("4: deal -1", d, Checks.INDEX, () -> d.decide(-1));
        Checks.refused("4: deal 1", d, Checks.INDEX, () -> d.decide(1));
        d.fallSilent(3);
        Checks.refused("4: a silent leader", d, Checks.STATE, () -> d.decide(0));
        d.undo();
        d.decide(0);
        Checks.refused("4: decided already", d, Checks.STATE, () -> d.decide(0));
    }

    private static void promise5Tell() {
        DealDoubts d = new DealDoubts();
        d.begin(1, 7, 2);
        d.vote(0, 0, true);
        d.vote(0, 1, true);
        d.vote(0, 2, true);
        d.decide(0);
        Checks.due("5: to do it", d.tell(0, 0), 2);
        Checks.due("5: the leader tells itself", d.tell(0, 1), 2);
        int saved = d.savedStates();
        Checks.due("5: a member that has ended it", d.tell(0, 0), 2);
        Checks.due("5: saved even if nothing changes", saved + d.savedStates(), 12);
        Checks.dueLog("5: told once", d, 0, 1, 2);
        Checks.dueLog("5: the leader", d, 1, 1, 5, 2);
        Checks.due("5: asked()", d.asked(), 0);
        DealDoubts e = new DealDoubts();
        e.begin(5, 7, 2);
        e.vote(0, 0, true);
        e.vote(0, 2, false);
        e.decide(0);
        Checks.due("5: in doubt, to drop it", e.tell(0, 0), 3);
        Checks.due("5: working, to drop it", e.tell(0, 1), 3);
        Checks.due("5: dropped already", e.tell(0, 2), 3);
        Checks.due("5: savedStates()", e.savedStates(), 6);
        Checks.dueLog("5: working", e, 1, 3);
        Checks.dueLog("5: dropped already", e, 2, 3);
        Checks.due("5: the item is free", e.held(0), 0);
    }

    private static void promise5TellRefusals() {
        DealDoubts d = new DealDoubts();
        Checks.refused("5: no deal at all", d, Checks.INDEX, () -> d.tell(0, 0));
        d.begin(5, 7, 2);
        Checks.refused("5: deal -1", d, Checks.INDEX, () -> d.tell(-1, 0));
        Checks.refused("5: deal 1", d, Checks.INDEX, () -> d.tell(1, 0));
        Checks.refused("5: site -1", d, Checks.INDEX, () -> d.tell(0, -1));
        Checks.refused("5: site 6", d, Checks.INDEX, () -> d.tell(0, 6));
        Checks.refused("5: no decision", d, Checks.STATE, () -> d.tell(0, 0));
        d.decide(0);
        Checks.refused("5: no member", d, Checks.STATE, () -> d.tell(0, 3));
        Checks.refused("5: the leader is no member", d, Checks.STATE, () -> d.tell(0, 5));
        d.fallSilent(0);
        Checks.refused("5: a silent site", d, Checks.STATE, () -> d.tell(0, 0));
        d.fallSilent(5);
        Checks.refused("5: a silent leader", d, Checks.STATE, () -> d.tell(0, 1));
    }

    private static void promise6AskLeader() {
        DealDoubts d = new DealDoubts();
        d.begin(0, 6, 2);
        d.vote(0, 1, true);
        d.vote(0, 2, true);
        Checks.due("6: the leader decides to drop it first", d.ask(0, 1, 0), 3);
        Checks.due("6: decision(0)", d.decision(0), 3);
        Checks.dueLog("6: the leader", d, 0, 6);
        Checks.dueLog("6: the member", d, 1, 1, 3);
        Checks.due("6: the leader has a decision", d.ask(0, 2, 0), 3);
        Checks.dueLog("6: the leader decides once", d, 0, 6);
        Checks.due("6: asked()", d.asked(), 2);
        d.begin(3, 12, 2);
        d.vote(1, 2, true);
        Checks.due("6: a leader that is a working member", d.ask(1, 2, 3), 3);
        Checks.dueStates("6: it stays so", d, 1, -1, -1, 3, 0, -1, -1);
        Checks.dueLog("6: it just decides", d, 3, 16);
        d.begin(4, 3, 7);
        d.vote(2, 0, true);
        d.vote(2, 1, true);
        d.decide(2);
        Checks.due("6: the leader has decided to do it", d.ask(2, 0, 4), 2);
        Checks.dueLog("6: to do it", d, 0, 6, 21, 22);
    }

    private static void promise6AskMembers() {
        DealDoubts d = new DealDoubts();
        d.begin(0, 62, 2);
        for (int site = 1; site < 5; site++) {
            d.vote(0, site, true);
        }
        Checks.due("6: a member in doubt", d.ask(0, 1, 2), 1);
        Checks.due("6: savedStates()", d.savedStates(), 6);
        Checks.due("6: asked()", d.asked(), 1);
        Checks.due("6: a working member", d.ask(0, 1, 5), 3);
        Checks.dueStates("6: both drop it", d, 0, -1, 3, 1, 1, 1, 3);
        Checks.dueLog("6: the working member", d, 5, 3);
        Checks.due("6: no decision is made", d.decision(0), 0);
        Checks.due("6: a member that has dropped it", d.ask(0, 2, 1), 3);
        d.begin(0, 6, 3);
        d.vote(1, 1, true);
        d.vote(1, 2, true);
        Checks.due("6: no member", d.ask(1, 1, 3), 1);
        d.decide(1);
        d.tell(1, 2);
        d.fallSilent(0);
        Checks.due("6: a member that has done it", d.ask(1, 1, 2), 2);
        Checks.due("6: five questions", d.asked(), 5);
        d.comeBack(0);
        d.begin(0, 3, 5);
        d.vote(2, 0, true);
        Checks.due("6: the leader asks a working member", d.ask(2, 0, 1), 3);
        Checks.due("6: which is no decision", d.decision(2), 0);
    }

    private static void promise6AskRefusals() {
        DealDoubts d = new DealDoubts();
        Checks.refused("6: no deal at all", d, Checks.INDEX, () -> d.ask(0, 0, 0));
        d.begin(0, 6, 2);
        Checks.refused("6: deal -1", d, Checks.INDEX, () -> d.ask(-1, 1, 1));
        Checks.refused("6: deal 1", d, Checks.INDEX, () -> d.ask(1, 1, 2));
        Checks.refused("6: site -1", d, Checks.INDEX, () -> d.ask(0, -1, -1));
        Checks.refused("6: site 6", d, Checks.INDEX, () -> d.ask(0, 6, 6));
        Checks.refused("6: other -1", d, Checks.INDEX, () -> d.ask(0, 1, -1));
        Checks.refused("6: other 6", d, Checks.INDEX, () -> d.ask(0, 1, 6));
        Checks.refused("6: a working member itself", d, Checks.ARGUMENT, () -> d.ask(0, 1, 1));
        Checks.refused("6: no member asks itself", d, Checks.ARGUMENT, () -> d.ask(0, 3, 3));
        Checks.refused("6: a working member", d, Checks.STATE, () -> d.ask(0, 1, 2));
        Checks.refused("6: no member", d, Checks.STATE, () -> d.ask(0, 3, 2));
        Checks.refused("6: the leader that is no member", d, Checks.STATE, () -> d.ask(0, 0, 2));
        d.vote(0, 1, true);
        Checks.refused("6: itself", d, Checks.ARGUMENT, () -> d.ask(0, 1, 1));
        d.fallSilent(0);
        Checks.refused("6: a silent leader", d, Checks.STATE, () -> d.ask(0, 1, 0));
        d.fallSilent(1);
        Checks.refused("6: silent itself", d, Checks.STATE, () -> d.ask(0, 1, 2));
        d.vote(0, 2, false);
        Checks.refused("6: has ended it", d, Checks.STATE, () -> d.ask(0, 2, 4));
    }
}
