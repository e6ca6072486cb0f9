/** Promises 4 to 6: decide, tell, ask. */
final class BoundaryOfDecisions extends Bounds {
    private BoundaryOfDecisions() {
    }

    static void all() {
        decideCalls();
        decideRefusals();
        decideTerms();
        tellCalls();
        tellRefusals();
        tellTerms();
        tellExceptions();
        askCalls();
        askRefusals();
        askLeader();
        askMembers();
        askExceptions();
    }

    private static void decideCalls() {
        deal(4, "decide", Worlds::working, DealDoubts::decide, 3);
        holds(4, "Returns its decision.", () -> {
            for (int deal = 0; deal < 8; deal++) {
                int there = deal;
                answers("to do it", () -> Worlds.inDoubt(8), d -> inRow(d.decide(there), d.decision(there)), 22);
                answers("to drop it", () -> Worlds.working(8), d -> inRow(d.decide(there), d.decision(there)), 33);
            }
        });
        holds(4, "Undoable.", () -> {
            undoable("to drop it", () -> Worlds.working(2), d -> d.decide(1));
            undoable("to do it", () -> Worlds.deal(5, 3, 3), d -> d.decide(0));
        });
    }

    private static void decideRefusals() {
        holds(4, "Throws `IllegalStateException` if the leader is silent", () -> {
            for (int leader = 0; leader < 6; leader++) {
                int silent = leader;
                int other = (leader + 1) % 6;
                World world = () -> Worlds.silent(Worlds.deal(silent, Worlds.ALL, 0), silent);
                refused("decide of silent " + leader, STATE, world, d -> d.decide(0));
                World up = () -> Worlds.silent(Worlds.deal(silent, Worlds.ALL, 0), other);
                answers("decide when another one is silent", up, d -> d.decide(0), 3);
            }
        });
        holds(4, "or has a decision already", () -> {
            refused("decided to do it", STATE, RICH, d -> d.decide(2));
            refused("decided to drop it", STATE, () -> Worlds.decided(1), d -> d.decide(0));
            refused("decided in a full world", STATE, FULL, d -> d.decide(7));
            refused("decided when it came back", STATE, () -> {
                DealDoubts d = Worlds.silent(Worlds.working(1), 5);
                d.comeBack(5);
                return d;
            }, d -> d.decide(0));
            refused("decided when it was asked", STATE, () -> {
                DealDoubts d = Worlds.deal(5, 3, 1);
                d.ask(0, 0, 5);
                return d;
            }, d -> d.decide(0));
            answers("the decision of another deal", RICH, d -> d.decide(1), 3);
        });
        holds(4, "A call that throws an exception changes nothing.", () -> {
            refused("no deal", INDEX, RICH, d -> d.decide(4));
            refused("a decision already", STATE, RICH, d -> d.decide(2));
            refused("a decision already, of a silent leader", STATE, RICH, d -> d.decide(3));
        });
    }

    private static void decideTerms() {
        holds(4, "if all members are in the state 1, its decision is 2", () -> {
            answers("two of two in doubt", () -> Worlds.deal(5, 3, 3), d -> d.decide(0), 2);
            answers("six of six in doubt", () -> Worlds.inDoubt(1), d -> d.decide(0), 2);
            answers("all in doubt, all but the leader silent",
                () -> Worlds.silent(Worlds.inDoubt(1), 0, 1, 2, 3, 4), d -> d.decide(0), 2);
        });
        holds(4, "otherwise it is 3", () -> {
            answers("nobody in doubt", () -> Worlds.deal(5, 3, 0), d -> d.decide(0), 3);
            answers("all have dropped it", () -> Worlds.dropped(1), d -> d.decide(0), 3);
            for (int site = 0; site < 6; site++) {
                int last = site;
                World world = () -> Worlds.deal(5, Worlds.ALL, Worlds.ALL & ~(1 << last));
                answers("all but " + site + ", which is working", world, d -> d.decide(0), 3);
                answers("all but " + site + ", which has dropped it", world,
                    d -> inRow(d.vote(0, last, false), d.decide(0)), 33);
                answers("all, when " + site + " is in doubt too", world,
                    d -> inRow(d.vote(0, last, true), d.decide(0)), 12);
            }
        });
        holds(4, "2 (to do it) or 3 (to drop it), which is in its log", () -> {
            DealDoubts d = Worlds.inDoubt(8);
            d.decide(7);
            d.decide(0);
            due("the length with eight votes and two decisions", d.logLength(5), 10);
            due("10 * 7 + 5", d.log(5, 8), 75);
            due("10 * 0 + 5", d.log(5, 9), 5);
            DealDoubts e = Worlds.decided(8);
            dueLog("eight decisions to drop it", e, 5, 6, 16, 26, 36, 46, 56, 66, 76);
            dueLog("no other site decides", e, 0);
        });
        holds(4, "10 * (deal) + 5 for the decision 2, or 10 * (deal) + 6 for the decision 3", () -> {
            DealDoubts d = Worlds.deal(5, 3, 3);
            d.decide(0);
            dueLog("to do it", d, 5, 5);
            d.begin(5, 3, 0);
            d.decide(1);
            dueLog("to drop it", d, 5, 5, 16);
        });
    }

    /** The members 0 to 4 are in doubt about a deal of the leader 5, which has decided to do it. */
    private static DealDoubts toDoIt() {
        DealDoubts d = Worlds.deal(5, 31, 31);
        d.decide(0);
        return d;
    }

    /** Member 0 is in doubt, 1 has dropped it, 2 is working; the leader 5 has decided to drop it. */
    private static DealDoubts toDropIt() {
        DealDoubts d = Worlds.deal(5, 7, 1);
        d.vote(0, 1, false);
        d.decide(0);
        return d;
    }

    private static void tellCalls() {
        dealAndSite(5, "tell", Worlds::decided, DealDoubts::tell, 3);
        holds(5, "Returns the state of the member after the call.", () -> {
            answers("in doubt, to do it", BoundaryOfDecisions::toDoIt, d -> inRow(d.tell(0, 4), d.state(0, 4)), 22);
            answers("in doubt, to drop it", BoundaryOfDecisions::toDropIt, d -> inRow(d.tell(0, 0), d.state(0, 0)), 33);
            answers("dropped already", BoundaryOfDecisions::toDropIt, d -> inRow(d.tell(0, 1), d.state(0, 1)), 33);
            answers("working, to drop it", BoundaryOfDecisions::toDropIt, d -> inRow(d.tell(0, 2), d.state(0, 2)), 33);
        });
        holds(5, "Undoable.", () -> {
            undoable("to drop it", BoundaryOfDecisions::toDropIt, d -> d.tell(0, 0));
            undoable("nothing to tell", BoundaryOfDecisions::toDropIt, d -> d.tell(0, 1));
        });
    }

    private static void tellRefusals() {
        holds(5, "Throws `IllegalStateException` if the site is no member", () -> {
            for (int site = 3; site < 6; site++) {
                int outside = site;
                refused("tell no member " + site, STATE, BoundaryOfDecisions::toDropIt, d -> d.tell(0, outside));
            }
            refused("tell no member in a rich world", STATE, RICH, d -> d.tell(2, 2));
            answers("the last member", BoundaryOfDecisions::toDropIt, d -> d.tell(0, 2), 3);
        });
        holds(5, "the leader or the site is silent", () -> {
            refused("a silent leader", STATE, RICH, d -> d.tell(3, 0));
            refused("a silent site", STATE, RICH, d -> d.tell(2, 4));
            refused("both are silent", STATE, () -> Worlds.silent(toDoIt(), 0, 5), d -> d.tell(0, 0));
            refused("a silent leader that is a member", STATE, () -> Worlds.silent(Worlds.decided(1), 5),
                d -> d.tell(0, 5));
            answers("another one is silent", () -> Worlds.silent(toDoIt(), 1), d -> d.tell(0, 0), 2);
        });
        holds(5, "or the leader has no decision", () -> {
            refused("no decision", STATE, RICH, d -> d.tell(0, 0));
            refused("no decision, to the leader", STATE, RICH, d -> d.tell(1, 0));
            refused("no decision, to one that has dropped it", STATE, RICH, d -> d.tell(1, 2));
            answers("a decision", RICH, d -> inRow(d.decide(0), d.tell(0, 0)), 33);
        });
    }

    private static void tellTerms() {
        holds(5, "(a leader that is a member tells itself)", () -> {
            for (int site = 0; site < 6; site++) {
                int leader = site;
                World world = () -> Worlds.deal(leader, Worlds.ALL, Worlds.ALL);
                answers("to do it", world, d -> inRow(d.decide(0), d.tell(0, leader)), 22);
                answers("to drop it", () -> Worlds.deal(leader, Worlds.ALL, 1 << leader),
                    d -> inRow(d.decide(0), d.tell(0, leader)), 33);
                answers("working, to drop it", () -> Worlds.deal(leader, Worlds.ALL, 0),
                    d -> inRow(d.decide(0), d.tell(0, leader)), 33);
            }
        });
        holds(5, "a member in the state 1 gets into the state that is the number of the decision", () -> {
            answers("to do it", BoundaryOfDecisions::toDoIt, d -> d.tell(0, 0), 2);
            answers("to drop it", BoundaryOfDecisions::toDropIt, d -> d.tell(0, 0), 3);
            DealDoubts d = toDoIt();
            d.tell(0, 0);
            dueLog("to do it", d, 0, 1, 2);
            due("nobody else is told", d.state(0, 1), 1);
        });
        holds(5, "A working member that is told to drop it gets into the state 3.", () -> {
            DealDoubts d = toDropIt();
            due("tell(0, 2)", d.tell(0, 2), 3);
            dueLog("a working member", d, 2, 3);
        });
        holds(5, "Members that have ended the deal stay as they are.", () -> {
            DealDoubts d = toDropIt();
            due("dropped", d.tell(0, 1), 3);
            dueLog("dropped once", d, 1, 3);
            DealDoubts e = toDoIt();
            e.tell(0, 0);
            due("done", e.tell(0, 0), 2);
            dueLog("done once", e, 0, 1, 2);
        });
        holds(5, "if it does not throw an exception, even if nothing changes", () -> {
            DealDoubts d = toDropIt();
            int saved = d.savedStates();
            d.tell(0, 1);
            due("savedStates() after nothing was told", d.savedStates(), saved + 1);
        });
    }

    private static void tellExceptions() {
        holds(5, "If more than one exception applies to a call, the one that is listed first", () -> {
            refused("no deal, a silent site", INDEX, RICH, d -> d.tell(4, 4));
            refused("no site, no decision", INDEX, RICH, d -> d.tell(0, 6));
            refused("no site, a silent leader", INDEX, RICH, d -> d.tell(3, -1));
            refused("no deal, no site", INDEX, RICH, d -> d.tell(-1, 6));
        });
        holds(5, "A call that throws an exception changes nothing.", () -> {
            refused("no deal", INDEX, FULL, d -> d.tell(8, 4));
            refused("no member", STATE, FULL, d -> d.tell(7, 0));
            refused("no decision", STATE, RICH, d -> d.tell(1, 3));
        });
    }

    /** Member 0 is in doubt about each deal. */
    private static DealDoubts askers(int deals) {
        DealDoubts d = Worlds.working(deals);
        for (int deal = 0; deal < deals; deal++) {
            d.vote(deal, 0, true);
        }
        return d;
    }

    private static void askCalls() {
        holds(6, "`deal`: the number of a deal", () ->
            dealEdges("ask", BoundaryOfDecisions::askers, (d, deal) -> d.ask(deal, 0, 5), 3));
        holds(6, "`site`: 0 to 5, the member that asks", () ->
            siteEdges("ask", () -> Worlds.deal(5, 63, 63), (d, site) -> d.ask(0, site, site == 0 ? 1 : 0), 1));
        holds(6, "`other`: 0 to 5, another site", () -> {
            for (int other = 1; other < 6; other++) {
                int there = other;
                answers("ask of " + other, () -> askers(1), d -> d.ask(0, 0, there), 3);
            }
            answers("ask of 0", () -> Worlds.deal(5, 3, 2), d -> d.ask(0, 1, 0), 3);
            noSuchSites("ask of another", () -> askers(1), (d, other) -> d.ask(0, 0, other));
        });
        holds(6, "Returns the state of the member that asks after the call.", () -> {
            answers("in doubt", () -> Worlds.inDoubt(1), d -> inRow(d.ask(0, 0, 1), d.state(0, 0)), 11);
            answers("in doubt, no member is asked", () -> Worlds.deal(5, 3, 3),
                d -> inRow(d.ask(0, 0, 4), d.state(0, 0)), 11);
            answers("done", BoundaryOfDecisions::toDoIt, d -> inRow(d.ask(0, 0, 5), d.state(0, 0)), 22);
            answers("dropped", () -> askers(1), d -> inRow(d.ask(0, 0, 1), d.state(0, 0)), 33);
        });
        holds(6, "Undoable.", () -> {
            undoable("a leader", () -> askers(1), d -> d.ask(0, 0, 5));
            undoable("a working member", () -> askers(1), d -> d.ask(0, 0, 1));
            undoable("no member", () -> Worlds.deal(5, 3, 1), d -> d.ask(0, 0, 4));
        });
    }

    private static void askRefusals() {
        holds(6, "Throws `IndexOutOfBoundsException` if there is no such deal or site", () -> {
            for (World world : new World[] {EMPTY, RICH, FULL}) {
                noSuchDeals("ask", world.make().deals(), world, (d, deal) -> d.ask(deal, 0, 1));
                noSuchSites("ask of deal 0 or none", world, (d, site) -> d.ask(0, site, 1));
                noSuchSites("ask of another of deal 0 or none", world, (d, site) -> d.ask(0, 0, site));
            }
        });
        holds(6, "Throws `IllegalArgumentException` if both sites are the same", () -> {
            for (int site = 0; site < 6; site++) {
                int same = site;
                World inDoubt = () -> Worlds.inDoubt(1);
                refused("in doubt, " + site + " asks itself", ARGUMENT, inDoubt, d -> d.ask(0, same, same));
                refused("in a rich world, " + site + " asks itself", ARGUMENT, RICH, d -> d.ask(1, same, same));
            }
        });
        holds(6, "Throws `IllegalStateException` if the site is no member", () -> {
            refused("no member asks a member", STATE, RICH, d -> d.ask(0, 3, 0));
            refused("no member asks no member", STATE, RICH, d -> d.ask(2, 0, 1));
            refused("the leader, no member, asks", STATE, RICH, d -> d.ask(0, 5, 0));
            answers("a member asks no member", RICH, d -> d.ask(0, 0, 3), 1);
        });
        holds(6, "one of both is silent", () -> {
            refused("the asking one is silent", STATE, RICH, d -> d.ask(2, 4, 2));
            refused("the other one is silent", STATE, RICH, d -> d.ask(1, 3, 4));
            refused("no member, which is silent", STATE, RICH, d -> d.ask(0, 0, 4));
            refused("the leader is silent", STATE, () -> Worlds.silent(askers(1), 5), d -> d.ask(0, 0, 5));
            refused("both are silent", STATE, () -> Worlds.silent(askers(1), 0, 1), d -> d.ask(0, 0, 1));
            answers("a third one is silent", () -> Worlds.silent(askers(1), 5), d -> d.ask(0, 0, 1), 3);
        });
        holds(6, "or the site is not in the state 1", () -> {
            refused("working", STATE, RICH, d -> d.ask(0, 2, 0));
            refused("done", STATE, RICH, d -> d.ask(2, 3, 2));
            refused("dropped", STATE, RICH, d -> d.ask(1, 2, 0));
            answers("in doubt", RICH, d -> d.ask(1, 3, 0), 3);
        });
    }

    private static void askLeader() {
        holds(6, "If this site is the leader of the deal: if it has a decision, it is told", () -> {
            answers("to do it", BoundaryOfDecisions::toDoIt, d -> d.ask(0, 4, 5), 2);
            answers("to drop it", BoundaryOfDecisions::toDropIt, d -> d.ask(0, 0, 5), 3);
            DealDoubts d = toDoIt();
            d.ask(0, 4, 5);
            dueLog("the leader decides once", d, 5, 5);
            DealDoubts e = Worlds.inDoubt(1);
            e.decide(0);
            due("a leader in doubt, with a decision", e.ask(0, 0, 5), 2);
            due("the leader stays in doubt", e.state(0, 5), 1);
        });
        holds(6, "if not, the leader decides 3 first, and then tells it", () -> {
            DealDoubts d = Worlds.inDoubt(1);
            due("all in doubt", d.ask(0, 0, 5), 3);
            due("decision(0)", d.decision(0), 3);
            due("the leader as a member", d.state(0, 5), 1);
            dueLog("the leader", d, 5, 1, 6);
            dueLog("the member", d, 0, 1, 3);
            DealDoubts e = Worlds.deal(5, 33, 1);
            due("a leader that is a working member", e.ask(0, 0, 5), 3);
            due("it decides, and works on", inRow(e.decision(0), e.state(0, 5)), 30);
        });
    }

    private static void askMembers() {
        holds(6, "A member in doubt that is up asks another site that is up.", () -> {
            answers("all others are silent", () -> Worlds.silent(askers(1), 2, 3, 4, 5), d -> d.ask(0, 0, 1), 3);
            answers("the leader asks", () -> Worlds.deal(5, 33, 32), d -> d.ask(0, 5, 0), 3);
        });
        holds(6, "if this site is a member and has ended the deal, the asking member gets into the same state", () -> {
            DealDoubts d = toDoIt();
            d.tell(0, 4);
            due("done", d.ask(0, 0, 4), 2);
            dueLog("done", d, 0, 1, 2);
            DealDoubts e = toDropIt();
            due("dropped, though the leader has decided", e.ask(0, 0, 1), 3);
            dueLog("the asked one drops it once", e, 1, 3);
        });
        holds(6, "If it is a working member, it gets into the state 3 first, and so does the asking member.", () -> {
            DealDoubts d = askers(1);
            due("ask(0, 0, 4)", d.ask(0, 0, 4), 3);
            due("the asked one", d.state(0, 4), 3);
            due("the leader decides nothing", d.decision(0), 0);
            dueLog("the asked one", d, 4, 3);
            dueLog("the asking one", d, 0, 1, 3);
            due("a third one works on", d.state(0, 3), 0);
        });
        holds(6, "If it is in doubt itself, or not a member, nothing changes.", () -> {
            DealDoubts d = Worlds.deal(5, 15, 3);
            due("in doubt itself", d.ask(0, 0, 1), 1);
            due("not a member", d.ask(0, 0, 4), 1);
            due("the asked one stays in doubt", d.state(0, 1), 1);
            due("decision(0)", d.decision(0), 0);
            dueLog("the asking one", d, 0, 1);
            dueLog("the asked one", d, 1, 1);
            due("savedStates()", d.savedStates(), 5);
        });
    }

    private static void askExceptions() {
        holds(6, "If more than one exception applies to a call, the one that is listed first", () -> {
            refused("no deal, the same sites", INDEX, RICH, d -> d.ask(4, 1, 1));
            refused("the same sites, which are none", INDEX, RICH, d -> d.ask(0, 6, 6));
            refused("no site, the other one is silent", INDEX, RICH, d -> d.ask(0, -1, 4));
            refused("no other site, not in doubt", INDEX, RICH, d -> d.ask(0, 2, 6));
            refused("no deal, a silent site", INDEX, RICH, d -> d.ask(-1, 4, 0));
            refused("the same sites, silent", ARGUMENT, RICH, d -> d.ask(2, 4, 4));
            refused("the same sites, no member", ARGUMENT, RICH, d -> d.ask(0, 3, 3));
            refused("the same sites, not in doubt", ARGUMENT, RICH, d -> d.ask(1, 2, 2));
        });
        holds(6, "A call that throws an exception changes nothing.", () -> {
            refused("no other site", INDEX, FULL, d -> d.ask(0, 4, 6));
            refused("the same sites", ARGUMENT, FULL, d -> d.ask(0, 4, 4));
            refused("not in doubt", STATE, FULL, d -> d.ask(0, 5, 4));
        });
    }
}
