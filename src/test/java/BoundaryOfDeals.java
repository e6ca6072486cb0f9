/** Promises 1 to 3: a new object, begin, vote. */
final class BoundaryOfDeals extends Bounds {
    private BoundaryOfDeals() {
    }

    static void all() {
        newObject();
        lastCalls();
        noSuchSite();
        beginArguments();
        beginRefusals();
        beginTerms();
        beginExceptions();
        voteArguments();
        voteRefusals();
        voteTerms();
        voteOnHeldItems();
        voteExceptions();
    }

    private static void newObject() {
        holds(1, "Creates six sites that are up, and no deal.", () -> {
            DealDoubts d = new DealDoubts();
            due("deals()", d.deals(), 0);
            due("open()", d.open(), 0);
            for (int site = 0; site < 6; site++) {
                due("isUp(" + site + ")", d.isUp(site), true);
            }
            refused("a seventh site", INDEX, EMPTY, e -> e.isUp(6) ? 1 : 0);
            refused("a deal", INDEX, EMPTY, e -> e.leader(0));
        });
        holds(1, "There are six sites, numbered from 0.", () ->
            siteEdges("logLength", EMPTY, DealDoubts::logLength, 0));
        holds(1, "A site is up or silent; at first all are up.", () -> {
            for (int silent = 0; silent < 6; silent++) {
                DealDoubts d = new DealDoubts();
                d.fallSilent(silent);
                for (int site = 0; site < 6; site++) {
                    due("isUp(" + site + ") when " + silent + " is silent", d.isUp(site), site != silent);
                }
            }
        });
        holds(1, "The constants: `NONE = -1`: There is no such number.", () -> due("NONE", DealDoubts.NONE, -1));
    }

    private static void lastCalls() {
        holds(1, "An object is used for at most 512 calls after it has been made", () -> {
            DealDoubts d = new DealDoubts();
            d.setPatience(1);
            for (int deal = 0; deal < 8; deal++) {
                d.begin(5, 31, deal);
                for (int site = 0; site < 5; site++) {
                    d.vote(deal, site, true);
                }
            }
            d.fallSilent(5);
            for (int call = 51; call <= 511; call++) {
                d.pass(20);
            }
            // 40 members that are in doubt ask four sites each, in 461 * 20 ticks.
            due("the 512th call, asked()", d.asked(), 461 * 20 * 40 * 4);
            DealDoubts e = new DealDoubts();
            for (int call = 1; call <= 510; call += 2) {
                due("call " + call + ", fallSilent(0)", e.fallSilent(0), 0);
                due("call " + (call + 1) + ", comeBack(0)", e.comeBack(0), 0);
            }
            due("the 511th call, savedStates()", e.savedStates(), 6);
            due("the 512th call, undo()", e.undo(), 5);
        });
    }

    private static void noSuchSite() {
        holds(1, "\"There is no such site\" means that the number is not 0 to 5.", () -> {
            for (World world : new World[] {EMPTY, RICH, FULL}) {
                noSuchSites("begin", world, (d, site) -> d.begin(site, 3, 0));
                noSuchSites("fallSilent", world, DealDoubts::fallSilent);
                noSuchSites("comeBack", world, DealDoubts::comeBack);
                noSuchSites("isUp", world, (d, site) -> d.isUp(site) ? 1 : 0);
                noSuchSites("held", world, DealDoubts::held);
                noSuchSites("log", world, (d, site) -> d.log(site, 0));
            }
        });
    }

    private static void beginArguments() {
        holds(2, "`leader`: 0 to 5", () -> {
            siteEdges("begin", EMPTY, (d, site) -> d.begin(site, 3, 0), 0);
            for (int site = 0; site < 6; site++) {
                int leader = site;
                answers("leader() after begin", EMPTY, d -> d.leader(d.begin(leader, 3, 0)), leader);
            }
        });
        holds(2, "`members`: a bit mask from 1 to 63: bit s is set if the site s is a member", () -> {
            for (int members = 3; members <= 63; members++) {
                if (Integer.bitCount(members) >= 2) {
                    DealDoubts d = new DealDoubts();
                    due("begin of members " + members, d.begin(0, members, 0), 0);
                    for (int site = 0; site < 6; site++) {
                        boolean isMember = (members & 1 << site) != 0;
                        due("state of site " + site + " of " + members, d.state(0, site), isMember ? 0 : -1);
                    }
                }
            }
            for (int members : new int[] {0, 64}) {
                refused("begin of members " + members, ARGUMENT, EMPTY, d -> d.begin(0, members, 0));
            }
        });
        holds(2, "`item`: 0 to 9", () -> {
            for (int item = 0; item < 10; item++) {
                DealDoubts d = new DealDoubts();
                due("begin with item " + item, d.begin(0, 3, item), 0);
                d.vote(0, 0, true);
                due("held(0) of item " + item, d.held(0), 1 << item);
            }
            for (int item : new int[] {-1, 10}) {
                refused("begin with item " + item, ARGUMENT, EMPTY, d -> d.begin(0, 3, item));
            }
        });
        holds(2, "Returns the number of the deal.", () -> {
            for (int deals = 0; deals < 8; deals++) {
                int there = deals;
                answers("begin after " + deals, () -> Worlds.working(there), d -> d.begin(0, 3, 9), deals);
            }
            World undone = () -> {
                DealDoubts d = Worlds.working(8);
                d.undo();
                return d;
            };
            answers("begin after undo", undone, d -> d.begin(0, 3, 9), 7);
        });
        holds(2, "Undoable.", () -> {
            undoable("the first begin", EMPTY, d -> d.begin(5, 33, 9));
            undoable("the sixth begin", () -> Worlds.working(5), d -> d.begin(0, 3, 0));
        });
    }

    private static void beginRefusals() {
        holds(2, "Throws `IndexOutOfBoundsException` if there is no such site as the leader", () -> {
            noSuchSites("begin", EMPTY, (d, site) -> d.begin(site, 3, 0));
            noSuchSites("begin", RICH, (d, site) -> d.begin(site, 3, 0));
        });
        holds(2, "Throws `IllegalArgumentException` if members is out of range", () -> {
            for (int members : new int[] {0, 64, 65, 67, 96, 127, -1, -64, 1 << 30 | 3, LEAST, LEAST + 3, MOST}) {
                refused("begin of members " + members, ARGUMENT, EMPTY, d -> d.begin(0, members, 0));
                refused("begin of members " + members, ARGUMENT, RICH, d -> d.begin(0, members, 0));
            }
        });
        holds(2, "or has fewer than two members", () -> {
            for (int site = 0; site < 6; site++) {
                int alone = 1 << site;
                refused("begin of site " + site + " alone", ARGUMENT, RICH, d -> d.begin(0, alone, 0));
                for (int other = 0; other < site; other++) {
                    int both = alone | 1 << other;
                    answers("begin of sites " + site + " and " + other, EMPTY, d -> d.begin(0, both, 0), 0);
                }
            }
            refused("begin of the leader alone", ARGUMENT, RICH, d -> d.begin(1, 2, 0));
        });
        holds(2, "or item is out of range", () -> {
            for (int item : new int[] {-1, 10, 31, 32, LEAST, MOST}) {
                refused("begin with item " + item, ARGUMENT, RICH, d -> d.begin(0, 3, item));
            }
        });
        holds(2, "Throws `IllegalStateException` if there are 8 deals", () -> {
            answers("the eighth begin", () -> Worlds.working(7), d -> d.begin(0, 3, 0), 7);
            refused("a ninth begin", STATE, () -> Worlds.working(8), d -> d.begin(0, 3, 0));
            refused("a ninth begin, after the end of all others", STATE, () -> Worlds.dropped(8),
                d -> d.begin(0, 3, 0));
            refused("a ninth begin in a full world", STATE, FULL, d -> d.begin(0, 3, 0));
        });
        holds(2, "or the leader or a member is silent", () -> {
            for (int site = 0; site < 6; site++) {
                int silent = site;
                World world = () -> Worlds.silent(new DealDoubts(), silent);
                int others = Worlds.ALL & ~(1 << silent);
                refused("begin of silent leader " + site, STATE, world, d -> d.begin(silent, others, 0));
                refused("begin of silent member " + site, STATE, world, d -> d.begin((silent + 1) % 6, Worlds.ALL, 0));
                answers("begin without silent " + site, world, d -> d.begin((silent + 1) % 6, others, 0), 0);
                answers("begin when it is back", world,
                    d -> last(d.comeBack(silent), d.begin(silent, Worlds.ALL, 0)), 0);
            }
            refused("begin of a silent member in a rich world", STATE, RICH, d -> d.begin(0, 17, 0));
        });
    }

    private static void beginTerms() {
        holds(2, "There are at most 8 deals, numbered from 0 in the order in which they begin.", () -> {
            DealDoubts d = new DealDoubts();
            for (int deal = 0; deal < 8; deal++) {
                due("begin", d.begin(deal % 6, 48, deal), deal);
                due("deals()", d.deals(), deal + 1);
            }
            for (int deal = 0; deal < 8; deal++) {
                due("leader(" + deal + ")", d.leader(deal), deal % 6);
            }
            dueThrown("a ninth begin", STATE, () -> Worlds.working(8), e -> e.begin(0, 3, 0));
        });
        holds(2, "two or more members, which are sites (the leader can be one of them)", () -> {
            for (int leader = 0; leader < 6; leader++) {
                DealDoubts d = new DealDoubts();
                due("two members, with the leader", d.begin(leader, 1 << leader | 1 << (leader + 1) % 6, 0), 0);
                due("its state", d.state(0, leader), 0);
                due("five members, without the leader", d.begin(leader, Worlds.ALL & ~(1 << leader), 0), 1);
                due("its state", d.state(1, leader), -1);
                due("six members", d.begin(leader, Worlds.ALL, 0), 2);
            }
        });
        holds(2, "and an item, which is a number from 0 to 9", () -> {
            answers("item 0", EMPTY, d -> d.begin(0, 3, 0), 0);
            answers("item 9", EMPTY, d -> d.begin(0, 3, 9), 0);
            answers("the same item again", EMPTY, d -> inRow(d.begin(0, 3, 9), d.begin(0, 3, 9)), 1);
        });
        holds(2, "For each deal, each member has a state: 0 (working, at first)", () -> {
            DealDoubts d = Worlds.dropped(7);
            due("begin", d.begin(0, Worlds.ALL, 9), 7);
            for (int site = 0; site < 6; site++) {
                due("state of site " + site, d.state(7, site), 0);
            }
        });
        holds(2, "The leader has a decision: 0 (none, at first)", () -> {
            DealDoubts d = Worlds.decided(7);
            due("begin", d.begin(5, Worlds.ALL, 9), 7);
            due("decision", d.decision(7), 0);
            due("it is not in its log", d.logLength(5), 7);
        });
    }

    private static void beginExceptions() {
        holds(2, "If more than one exception applies to a call, the one that is listed first", () -> {
            for (World world : new World[] {EMPTY, RICH, FULL}) {
                refused("no leader, no members", INDEX, world, d -> d.begin(6, 0, 0));
                refused("no leader, one member", INDEX, world, d -> d.begin(-1, 1, 0));
                refused("no leader, no item", INDEX, world, d -> d.begin(6, 3, 10));
                refused("no leader, no members, no item", INDEX, world, d -> d.begin(-1, 64, -1));
            }
            refused("no leader, a ninth deal", INDEX, FULL, d -> d.begin(6, 3, 0));
            refused("no leader, a silent member", INDEX, RICH, d -> d.begin(6, 17, 0));
            refused("no members, a ninth deal", ARGUMENT, FULL, d -> d.begin(0, 64, 0));
            refused("one member, a ninth deal", ARGUMENT, FULL, d -> d.begin(0, 1, 0));
            refused("no item, a ninth deal", ARGUMENT, FULL, d -> d.begin(0, 3, 10));
            refused("no members, a silent leader", ARGUMENT, RICH, d -> d.begin(4, 0, 0));
            refused("one member, which is silent", ARGUMENT, RICH, d -> d.begin(0, 16, 0));
            refused("no item, a silent member", ARGUMENT, RICH, d -> d.begin(0, 17, -1));
        });
        holds(2, "A call that throws an exception changes nothing.", () -> {
            refused("no leader", INDEX, FULL, d -> d.begin(6, 3, 0));
            refused("no members", ARGUMENT, RICH, d -> d.begin(0, 0, 0));
            refused("no item", ARGUMENT, RICH, d -> d.begin(0, 3, 10));
            refused("a silent leader", STATE, RICH, d -> d.begin(4, 3, 0));
        });
    }

    private static void voteArguments() {
        dealAndSite(3, "vote", Worlds::working, (d, deal, site) -> d.vote(deal, site, true), 1);
        holds(3, "`isYes`: whether it votes yes", () -> {
            answers("yes", () -> Worlds.working(1), d -> d.vote(0, 0, true), 1);
            answers("no", () -> Worlds.working(1), d -> d.vote(0, 0, false), 3);
        });
        holds(3, "Returns the state of the member after the call.", () -> {
            for (int site = 0; site < 6; site++) {
                for (boolean isYes : new boolean[] {true, false}) {
                    DealDoubts d = Worlds.working(8);
                    due("vote of " + site, d.vote(7, site, isYes), isYes ? 1 : 3);
                    due("state of " + site, d.state(7, site), isYes ? 1 : 3);
                }
            }
        });
        holds(3, "Undoable.", () -> {
            undoable("yes", () -> Worlds.working(2), d -> d.vote(1, 5, true));
            undoable("no", () -> Worlds.working(2), d -> d.vote(0, 0, false));
        });
    }

    private static void voteRefusals() {
        holds(3, "Throws `IllegalStateException` if the site is no member", () -> {
            for (int site = 0; site < 6; site++) {
                int outside = site;
                World world = () -> {
                    DealDoubts d = new DealDoubts();
                    d.begin(outside, Worlds.ALL & ~(1 << outside), 0);
                    return d;
                };
                refused("vote of the leader, no member, " + site, STATE, world, d -> d.vote(0, outside, true));
                answers("vote of a member", world, d -> d.vote(0, (outside + 1) % 6, true), 1);
            }
            refused("vote of no member", STATE, RICH, d -> d.vote(0, 3, false));
        });
        holds(3, "is silent", () -> {
            for (int site = 0; site < 6; site++) {
                int silent = site;
                World world = () -> Worlds.silent(Worlds.working(1), silent);
                refused("vote of silent " + site, STATE, world, d -> d.vote(0, silent, true));
                refused("no of silent " + site, STATE, world, d -> d.vote(0, silent, false));
                answers("vote of another one", world, d -> d.vote(0, (silent + 1) % 6, true), 1);
            }
            refused("vote of a silent site", STATE, RICH, d -> d.vote(1, 4, true));
        });
        holds(3, "or is not in the state 0", () -> {
            refused("vote in doubt", STATE, RICH, d -> d.vote(0, 0, true));
            refused("no in doubt", STATE, RICH, d -> d.vote(0, 0, false));
            refused("vote when done", STATE, RICH, d -> d.vote(2, 3, true));
            refused("vote when dropped", STATE, RICH, d -> d.vote(1, 2, true));
            refused("no when dropped", STATE, RICH, d -> d.vote(1, 2, false));
            answers("vote when working", RICH, d -> d.vote(1, 5, true), 1);
        });
    }

    private static void voteTerms() {
        holds(3, "A working member that is up votes.", () -> {
            World world = () -> {
                DealDoubts d = Worlds.working(8);
                d.decide(7);
                d.fallSilent(5);
                return d;
            };
            answers("after the decision, with a silent leader", world, d -> d.vote(7, 0, true), 1);
            answers("the leader as a member", () -> Worlds.working(8), d -> d.vote(0, 5, true), 1);
        });
        holds(3, "If it votes yes, it gets into the state 1", () -> {
            DealDoubts d = Worlds.working(8);
            for (int deal = 0; deal < 8; deal++) {
                due("yes to deal " + deal + ", with an item of its own", d.vote(deal, 0, true), 1);
            }
            due("eight items are held", d.held(0), 255);
        });
        holds(3, "otherwise, and if it votes no, it gets into the state 3", () -> {
            DealDoubts d = Worlds.working(1);
            due("no", d.vote(0, 2, false), 3);
            dueLog("no", d, 2, 3);
            due("held(2)", d.held(2), 0);
        });
        holds(3, "becomes the patience of the settings when it gets into the state 1", () -> {
            for (int patience : new int[] {1, 2, 19, 20}) {
                DealDoubts d = Worlds.working(2);
                d.vote(0, 0, true);
                d.setPatience(patience);
                d.vote(1, 0, true);
                due("patience of the vote before", d.patience(0, 0), 3);
                due("patience of the vote after", d.patience(1, 0), patience);
            }
        });
        holds(3, "for a vote with yes (when it gets into the state 1) the number 10 * (deal) + 1", () -> {
            DealDoubts d = Worlds.working(8);
            d.vote(7, 0, true);
            d.vote(0, 0, true);
            dueLog("yes to the last deal, and to the first one", d, 0, 71, 1);
        });
        holds(3, "when it gets into the state 2 or 3 as a member, 10 * (deal) + 2 or 10 * (deal) + 3", () -> {
            DealDoubts d = Worlds.working(8);
            d.vote(7, 0, false);
            d.vote(0, 0, false);
            dueLog("no to the last deal, and to the first one", d, 0, 73, 3);
        });
    }

    /** Deal 0 and deal 1 about the item 4, deal 2 about the item 5, deal 3 about the item 3; members 0 and 1. */
    private static DealDoubts sameItems() {
        DealDoubts d = new DealDoubts();
        for (int item : new int[] {4, 4, 5, 3}) {
            d.begin(5, 3, item);
        }
        return d;
    }

    private static void voteOnHeldItems() {
        holds(3, "but only if it does not hold the same item for another deal", () -> {
            World world = BoundaryOfDeals::sameItems;
            answers("yes to a later deal", world, d -> inRow(d.vote(0, 0, true), d.vote(1, 0, true)), 13);
            answers("yes to an earlier deal", world, d -> inRow(d.vote(1, 0, true), d.vote(0, 0, true)), 13);
            answers("yes of another site", world, d -> inRow(d.vote(0, 0, true), d.vote(1, 1, true)), 11);
            answers("the next item", world, d -> inRow(d.vote(0, 0, true), d.vote(2, 0, true)), 11);
            answers("the item before", world, d -> inRow(d.vote(0, 0, true), d.vote(3, 0, true)), 11);
            DealDoubts d = sameItems();
            d.vote(0, 0, true);
            d.vote(1, 0, true);
            dueLog("it drops the second deal", d, 0, 1, 13);
        });
        holds(3, "A member holds the item of a deal while it is in doubt about this deal.", () -> {
            answers("after no to the other deal", BoundaryOfDeals::sameItems,
                d -> inRow(d.vote(0, 0, false), d.vote(1, 0, true)), 31);
            answers("after the other deal was dropped", BoundaryOfDeals::sameItems,
                d -> inRow(d.vote(0, 0, true), d.ask(0, 0, 5), d.vote(1, 0, true)), 131);
            DealDoubts d = sameItems();
            d.vote(0, 0, true);
            d.vote(0, 1, true);
            d.decide(0);
            due("while the leader has decided and not told", d.reason(1, 0), 4);
            due("tell(0, 0)", d.tell(0, 0), 2);
            due("after the other deal was done", d.vote(1, 0, true), 1);
            due("while it is done for another member, which is in doubt", d.vote(1, 1, true), 3);
        });
    }

    private static void voteExceptions() {
        holds(3, "If more than one exception applies to a call, the one that is listed first", () -> {
            refused("no deal, a silent site", INDEX, RICH, d -> d.vote(4, 4, true));
            refused("no site, which is no member", INDEX, RICH, d -> d.vote(0, 6, true));
            refused("no deal, no site", INDEX, RICH, d -> d.vote(-1, -1, true));
        });
        holds(3, "A call that throws an exception changes nothing.", () -> {
            refused("no deal", INDEX, EMPTY, d -> d.vote(0, 0, true));
            refused("no site", INDEX, FULL, d -> d.vote(0, 6, true));
            refused("a member in doubt", STATE, FULL, d -> d.vote(7, 4, true));
        });
    }
}
