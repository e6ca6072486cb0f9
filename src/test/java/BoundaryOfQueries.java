/** Promises 11 to 23: the queries. */
final class BoundaryOfQueries extends Bounds {
    private BoundaryOfQueries() {
    }

    static void all() {
        counts();
        isUp();
        state();
        decision();
        leader();
        patience();
        open();
        stuck();
        logLength();
        log();
        fullLog();
        held();
        asked();
        doubtShare();
        queriesChangeNothing();
    }

    private static void counts() {
        holds(11, "Returns the number of deals.", () -> {
            for (int deals = 0; deals <= 8; deals++) {
                int there = deals;
                answers("deals() of " + deals, () -> Worlds.working(there), DealDoubts::deals, deals);
                answers("deals() of " + deals + " ended", () -> Worlds.dropped(there), DealDoubts::deals, deals);
            }
            answers("deals() after a ninth begin was refused", FULL, DealDoubts::deals, 8);
            answers("deals() after undo", () -> Worlds.working(8), d -> last(d.undo(), d.deals()), 7);
        });
    }

    private static void isUp() {
        site(12, "isUp", EMPTY, (d, site) -> d.isUp(site) ? 1 : 0, 1);
        holds(12, "Returns true if it is up.", () -> {
            DealDoubts d = new DealDoubts();
            for (int site = 0; site < 6; site++) {
                due("isUp(" + site + ")", d.isUp(site), true);
                d.fallSilent(site);
                due("isUp(" + site + ") when it is silent", d.isUp(site), false);
            }
            due("isUp(0) when all are silent", d.isUp(0), false);
            d.comeBack(5);
            due("isUp(5) when it is back", d.isUp(5), true);
            due("isUp(4)", d.isUp(4), false);
        });
    }

    private static void state() {
        dealAndSite(13, "state", Worlds::dropped, DealDoubts::state, 3);
        holds(13, "Returns the state, 0 to 3", () -> {
            answers("working", RICH, d -> d.state(0, 2), 0);
            answers("working and silent", RICH, d -> d.state(1, 4), 0);
            answers("in doubt", RICH, d -> d.state(0, 0), 1);
            answers("in doubt and silent", RICH, d -> d.state(2, 4), 1);
            answers("done", RICH, d -> d.state(2, 3), 2);
            answers("dropped", RICH, d -> d.state(1, 2), 3);
        });
        holds(13, "NONE if the site is no member", () -> {
            answers("neither member nor leader", RICH, d -> d.state(0, 3), -1);
            answers("the leader", RICH, d -> d.state(0, 5), -1);
            answers("the leader, silent", RICH, d -> d.state(3, 4), -1);
            answers("the leader, decided", RICH, d -> d.state(2, 2), -1);
        });
    }

    private static void decision() {
        deal(14, "decision", Worlds::decided, DealDoubts::decision, 3);
        holds(14, "Returns 0, 2 or 3.", () -> {
            answers("none", RICH, d -> d.decision(0), 0);
            answers("to do it", RICH, d -> d.decision(2), 2);
            answers("to drop it", RICH, d -> d.decision(3), 3);
            answers("none, though all are in doubt", () -> Worlds.inDoubt(8), d -> d.decision(7), 0);
            answers("none, though all have dropped it", () -> Worlds.dropped(8), d -> d.decision(7), 0);
            answers("to do it, though all have done it", FULL, d -> last(d.tell(7, 4), d.decision(7)), 2);
        });
    }

    private static void leader() {
        deal(15, "leader", Worlds::working, DealDoubts::leader, 5);
        holds(15, "Returns the number of the site.", () -> {
            for (int site = 0; site < 6; site++) {
                int leader = site;
                int others = Worlds.ALL & ~(1 << leader);
                answers("a member", () -> Worlds.deal(leader, Worlds.ALL, 0), d -> d.leader(0), leader);
                answers("no member", () -> Worlds.deal(leader, others, 0), d -> d.leader(0), leader);
                answers("silent", () -> Worlds.silent(Worlds.deal(leader, others, 0), leader), d -> d.leader(0),
                    leader);
            }
        });
    }

    private static void patience() {
        dealAndSite(16, "patience", Worlds::inDoubt, DealDoubts::patience, 3);
        holds(16, "Returns the patience", () -> {
            DealDoubts d = Worlds.deal(5, 3, 0);
            d.setPatience(20);
            d.vote(0, 0, true);
            due("20", d.patience(0, 0), 20);
            d.pass(19);
            due("1", d.patience(0, 0), 1);
            d.fallSilent(0);
            due("1, silent", d.patience(0, 0), 1);
        });
        holds(16, "NONE if the site is no member", () -> {
            answers("neither member nor leader", RICH, d -> d.patience(0, 3), -1);
            answers("the leader", RICH, d -> d.patience(0, 5), -1);
        });
        holds(16, "or is not in doubt", () -> {
            answers("working", RICH, d -> d.patience(0, 2), -1);
            answers("done", RICH, d -> d.patience(2, 3), -1);
            answers("dropped", RICH, d -> d.patience(1, 2), -1);
            answers("in doubt", RICH, d -> d.patience(0, 0), 3);
            answers("dropped by asking", RICH, d -> last(d.ask(0, 0, 5), d.patience(0, 0)), -1);
        });
    }

    private static void open() {
        holds(17, "Returns the number of open deals.", () -> {
            for (int ended = 0; ended <= 8; ended++) {
                DealDoubts d = Worlds.working(8);
                for (int deal = 0; deal < ended; deal++) {
                    for (int site = 0; site < 6; site++) {
                        d.vote(deal, site, false);
                    }
                }
                due("open() when " + ended + " of 8 have ended", d.open(), 8 - ended);
            }
            answers("open() without deals", EMPTY, DealDoubts::open, 0);
        });
        holds(17, "A deal is open as long as some member is in the state 0 or 1.", () -> {
            for (int site = 0; site < 6; site++) {
                int last = site;
                World world = () -> allButOne(last);
                answers("only " + site + " is working", world, DealDoubts::open, 1);
                answers("only " + site + " is in doubt", world, d -> last(d.vote(0, last, true), d.open()), 1);
                answers("only " + site + " is in doubt, and silent", world,
                    d -> last(d.vote(0, last, true), d.fallSilent(last), d.open()), 1);
                answers("all have dropped it", world, d -> last(d.vote(0, last, false), d.open()), 0);
            }
        });
        holds(17, "A member in the state 2 or 3 has ended the deal.", () -> {
            answers("one is done, one in doubt", () -> done(1), DealDoubts::open, 1);
            answers("two are done", () -> done(2), DealDoubts::open, 0);
            answers("two have dropped it", () -> Worlds.dropped(1), DealDoubts::open, 0);
            answers("without a decision of the leader", () -> Worlds.dropped(1), d -> d.decision(0), 0);
            answers("a decision alone ends nothing", () -> Worlds.decided(1), DealDoubts::open, 1);
        });
    }

    /** All members but one have dropped a deal. */
    private static DealDoubts allButOne(int last) {
        DealDoubts d = Worlds.deal(5, Worlds.ALL, 0);
        for (int site = 0; site < 6; site++) {
            if (site != last) {
                d.vote(0, site, false);
            }
        }
        return d;
    }

    /** Members 0 and 1 are in doubt, the leader 5 has decided to do it, and has told so many of them. */
    private static DealDoubts done(int told) {
        DealDoubts d = Worlds.deal(5, 3, 3);
        d.decide(0);
        for (int site = 0; site < told; site++) {
            d.tell(0, site);
        }
        return d;
    }

    private static void stuck() {
        holds(18, "Returns the number of deals that are stuck", () -> {
            answers("stuck() without deals", EMPTY, DealDoubts::stuck, 0);
            for (int stuck = 0; stuck <= 8; stuck++) {
                DealDoubts d = new DealDoubts();
                for (int deal = 0; deal < 8; deal++) {
                    d.begin(5, 3, deal);
                    d.vote(deal, 0, deal < stuck);
                    d.vote(deal, 1, deal < stuck);
                }
                due("stuck() while the leader is up", d.stuck(), 0);
                d.fallSilent(5);
                due("stuck() of " + stuck + " deals in doubt", d.stuck(), stuck);
            }
        });
        holds(18, "some member that is up is in doubt", () -> {
            World world = () -> Worlds.silent(Worlds.deal(5, 3, 3), 5);
            answers("two of them", world, DealDoubts::stuck, 1);
            answers("one of them, 1", world, d -> last(d.fallSilent(0), d.stuck()), 1);
            answers("one of them, 0", world, d -> last(d.fallSilent(1), d.stuck()), 1);
            answers("none of them", world, d -> last(d.fallSilent(0), d.fallSilent(1), d.stuck()), 0);
            answers("all are working", () -> Worlds.silent(Worlds.deal(5, 3, 0), 5), DealDoubts::stuck, 0);
            answers("all have ended it", () -> Worlds.silent(Worlds.dropped(1), 0), DealDoubts::stuck, 0);
        });
        holds(18, "and helper() is NONE for all sites", () -> {
            answers("the leader has an answer", () -> Worlds.deal(5, 3, 3), DealDoubts::stuck, 0);
            answers("a working member has one", () -> Worlds.silent(Worlds.deal(5, 7, 3), 5), DealDoubts::stuck, 0);
            answers("it is silent too", () -> Worlds.silent(Worlds.deal(5, 7, 3), 5, 2), DealDoubts::stuck, 1);
            answers("one that has done it has one", () -> Worlds.silent(done(1), 5), DealDoubts::stuck, 0);
            answers("the leader is the only one in doubt that is up",
                () -> Worlds.silent(Worlds.deal(0, 3, 3), 1), DealDoubts::stuck, 1);
            answers("the leader in doubt has no helper, the other one has",
                () -> Worlds.deal(0, 3, 3), DealDoubts::stuck, 0);
        });
    }

    private static void logLength() {
        site(19, "logLength", () -> Worlds.dropped(8), DealDoubts::logLength, 8);
        holds(19, "Returns the number of entries.", () -> {
            DealDoubts d = Worlds.working(8);
            due("an empty log", d.logLength(0), 0);
            for (int deal = 0; deal < 8; deal++) {
                due("before the vote", d.logLength(0), 2 * deal);
                d.vote(deal, 0, true);
                due("after the vote", d.logLength(0), 2 * deal + 1);
                d.ask(deal, 0, 1);
                due("after the end", d.logLength(0), 2 * deal + 2);
            }
            answers("a full log", FULL, e -> e.logLength(5), 24);
            answers("a full log after undo", FULL, e -> last(e.undo(), e.logLength(5)), 23);
        });
    }

    private static void log() {
        site(20, "log", () -> Worlds.dropped(8), (d, site) -> d.log(site, 7), 73);
        holds(20, "`index`: 0 for the first entry", () -> {
            DealDoubts d = Worlds.dropped(8);
            for (int index = 0; index < 8; index++) {
                due("log(0, " + index + ")", d.log(0, index), 10 * index + 3);
            }
        });
        holds(20, "Returns the entry; NONE if there are not so many.", () -> {
            for (int index : new int[] {0, 1, 23, 24, MOST}) {
                answers("an empty log at " + index, EMPTY, d -> d.log(0, index), -1);
                answers("an empty log at " + index, FULL, d -> d.log(0, index), -1);
            }
            answers("the last entry of eight", FULL, d -> d.log(4, 7), 71);
            answers("behind it", FULL, d -> d.log(4, 8), -1);
            answers("the last entry of a full log", FULL, d -> d.log(5, 23), 72);
            answers("behind it", FULL, d -> d.log(5, 24), -1);
            answers("far behind it", FULL, d -> d.log(5, MOST), -1);
            answers("an entry that was taken back", FULL, d -> last(d.undo(), d.log(5, 23)), -1);
        });
        holds(20, "Throws `IndexOutOfBoundsException` if there is no such site", () -> {
            noSuchSites("log", RICH, (d, site) -> d.log(site, 0));
            noSuchSites("log at MOST", FULL, (d, site) -> d.log(site, MOST));
        });
        holds(20, "or index is negative", () -> {
            for (int site : new int[] {0, 5}) {
                for (int index : new int[] {-1, -24, LEAST}) {
                    refused("log(" + site + ", " + index + ")", INDEX, EMPTY, d -> d.log(site, index));
                    refused("log(" + site + ", " + index + ")", INDEX, FULL, d -> d.log(site, index));
                }
            }
        });
    }

    private static void fullLog() {
        holds(20, "The log of a site contains its entries in the order in which they were made", () -> {
            DealDoubts d = new DealDoubts();
            for (int deal = 0; deal < 8; deal++) {
                d.begin(5, 48, deal);
            }
            for (int deal = 7; deal >= 0; deal--) {
                d.decide(deal);
                d.vote(deal, 5, true);
                d.tell(deal, 5);
            }
            due("a full log", d.logLength(5), 24);
            for (int index = 0; index < 24; index += 3) {
                int deal = 7 - index / 3;
                due("the decision", d.log(5, index), 10 * deal + 6);
                due("the vote", d.log(5, index + 1), 10 * deal + 1);
                due("the end", d.log(5, index + 2), 10 * deal + 3);
            }
        });
        holds(20, "when it gets into the state 2 or 3 as a member, 10 * (deal) + 2 or 10 * (deal) + 3", () -> {
            DealDoubts d = Worlds.full();
            d.tell(7, 4);
            d.tell(0, 4);
            due("done with the last deal", d.log(4, 8), 72);
            due("done with the first deal", d.log(4, 9), 2);
        });
    }

    private static void held() {
        site(21, "held", () -> Worlds.inDoubt(8), DealDoubts::held, 255);
        holds(21, "Returns a bit mask: bit i is set if it holds the item i.", () -> {
            answers("held() without deals", EMPTY, d -> d.held(0), 0);
            answers("held() when working", () -> Worlds.working(8), d -> d.held(0), 0);
            for (int item = 0; item < 10; item++) {
                DealDoubts d = new DealDoubts();
                d.begin(5, 3, item);
                d.vote(0, 0, true);
                due("held(0) of item " + item, d.held(0), 1 << item);
                due("held(1) of item " + item, d.held(1), 0);
                d.fallSilent(0);
                due("held(0) of item " + item + ", silent", d.held(0), 1 << item);
            }
            DealDoubts d = new DealDoubts();
            for (int deal = 0; deal < 8; deal++) {
                d.begin(5, 3, deal + 2);
                d.vote(deal, 0, true);
            }
            due("the last eight items", d.held(0), 1020);
        });
        holds(21, "A member holds the item of a deal while it is in doubt about this deal.", () -> {
            DealDoubts d = Worlds.deal(5, 3, 0);
            due("before the vote", d.held(0), 0);
            d.vote(0, 0, true);
            d.vote(0, 1, true);
            due("in doubt", d.held(0), 1);
            d.decide(0);
            due("decided, and not told", d.held(0), 1);
            d.tell(0, 0);
            due("done", d.held(0), 0);
            due("the other one is in doubt", d.held(1), 1);
        });
    }

    private static void asked() {
        World world = () -> Worlds.deal(5, 3, 3);
        holds(22, "Returns the number of questions that were asked so far: calls of ask()", () -> {
            answers("no question", FULL, DealDoubts::asked, 0);
            answers("a question that changes nothing", world, d -> inRow(d.ask(0, 0, 1), d.asked()), 11);
            answers("a question to no member", world, d -> inRow(d.ask(0, 0, 4), d.asked()), 11);
            answers("a question that ends it", world, d -> inRow(d.ask(0, 0, 5), d.asked()), 31);
            answers("two questions", world, d -> last(d.ask(0, 0, 1), d.ask(0, 0, 1), d.asked()), 2);
            answers("undo takes it back", world, d -> last(d.ask(0, 0, 1), d.undo(), d.asked()), 0);
            refused("a question that is refused", STATE, RICH, d -> d.ask(0, 2, 1));
        });
        holds(22, "and each question in a tick", () -> {
            answers("none in two ticks", world, d -> inRow(d.pass(2), d.asked()), 0);
            // Member 0 asks 1 to 5, and 5 is the leader; member 1 asks 0.
            answers("six in the third tick", world, d -> inRow(d.pass(3), d.asked()), 26);
            answers("one in the third tick", () -> Worlds.deal(5, 3, 1), d -> inRow(d.pass(3), d.asked()), 21);
            answers("eight in vain", () -> Worlds.silent(world.make(), 5), d -> inRow(d.pass(3), d.asked()), 8);
            answers("eight in vain, twice", () -> Worlds.silent(world.make(), 5), d -> last(d.pass(6), d.asked()), 16);
        });
        holds(22, "\"a\", a deal, a site, and another site (with another digit): like ask()", () -> {
            DealDoubts d = Worlds.deal(5, 3, 3);
            Checks.append(d, "a001;a010;a005;a005");
            due("run()", d.run(), 3);
            due("asked()", d.asked(), 3);
        });
    }

    private static void dueShare(String what, DealDoubts d, double want) {
        Checks.dueShare(what, d.doubtShare(), want);
    }

    private static void doubtShare() {
        holds(23, "0.0 without deals", () -> {
            dueShare("a new object", new DealDoubts(), 0.0);
            DealDoubts d = Worlds.deal(5, 3, 0);
            d.undo();
            dueShare("after undo of the only deal", d, 0.0);
        });
        holds(23, "Returns the number of members in the state 1, of all deals, as a double", () -> {
            dueShare("nobody of 48", Worlds.working(8), 0.0);
            dueShare("all of 48", Worlds.inDoubt(8), 1.0);
            for (int inDoubt = 0; inDoubt <= 6; inDoubt++) {
                DealDoubts d = Worlds.deal(5, Worlds.ALL, (1 << inDoubt) - 1);
                dueShare(inDoubt + " of six", d, (double) inDoubt / 6.0);
            }
            DealDoubts d = Worlds.working(8);
            d.vote(7, 5, true);
            dueShare("one of 48", d, 1.0 / 48.0);
            d.fallSilent(5);
            dueShare("one of 48, silent", d, 1.0 / 48.0);
            dueShare("done, and dropped", Worlds.rich(), 4.0 / 13.0);
        });
        holds(23, "divided by the number of all members of all deals, as a double", () -> {
            DealDoubts d = Worlds.deal(5, 3, 1);
            dueShare("one of two, the leader is no member", d, 1.0 / 2.0);
            d.begin(5, 7, 1);
            dueShare("one of five", d, 1.0 / 5.0);
            d.vote(1, 0, true);
            d.vote(1, 1, true);
            dueShare("three of five", d, 3.0 / 5.0);
            d.decide(1);
            d.tell(1, 0);
            d.tell(1, 2);
            dueShare("those that have ended it are members too", d, 2.0 / 5.0);
        });
        holds(23, "All numbers are integers, except for doubtShare().", () ->
            dueShare("one of three", Worlds.deal(5, 7, 1), 1.0 / 3.0));
    }

    /** Queries are not marked "Undoable": they save nothing. */
    private static void queriesChangeNothing() {
        String marked = "Each method that is marked \"Undoable\" saves the state from before the call";
        for (World world : new World[] {EMPTY, RICH, FULL}) {
            holds(11, marked, () -> changesNothing("deals()", world, DealDoubts::deals));
            holds(17, marked, () -> changesNothing("open()", world, DealDoubts::open));
            holds(18, marked, () -> changesNothing("stuck()", world, DealDoubts::stuck));
            holds(22, marked, () -> changesNothing("asked()", world, DealDoubts::asked));
            holds(23, marked, () -> changesNothing("doubtShare()", world, d -> (long) d.doubtShare()));
            for (int site : new int[] {0, 4, 5}) {
                holds(12, marked, () -> changesNothing("isUp()", world, d -> d.isUp(site) ? 1 : 0));
                holds(19, marked, () -> changesNothing("logLength()", world, d -> d.logLength(site)));
                holds(20, marked, () -> changesNothing("log()", world, d -> d.log(site, 0)));
                holds(21, marked, () -> changesNothing("held()", world, d -> d.held(site)));
            }
        }
        for (World world : new World[] {RICH, FULL}) {
            holds(14, marked, () -> changesNothing("decision()", world, d -> d.decision(0)));
            holds(15, marked, () -> changesNothing("leader()", world, d -> d.leader(0)));
            holds(13, marked, () -> changesNothing("state()", world, d -> d.state(0, 0)));
            holds(16, marked, () -> changesNothing("patience()", world, d -> d.patience(0, 0)));
        }
    }
}
