/** Promises 24 to 26: reason, helper, ticksToEnd. */
final class BoundaryOfForecasts extends Bounds {
    private static final String NO_CHANGE = "---- forecasts; they change nothing.";
    private static final String LEAST_HELPER = "Returns the least number of another site that is up";

    private BoundaryOfForecasts() {
    }

    static void all() {
        reasonCalls();
        reasonOrder();
        reasonIsTrue();
        helperCalls();
        leastHelper();
        noHelper();
        helperIsTrue();
        ticksCalls();
        ticksNow();
        ticksLater();
        ticksNever();
        ticksAreTrue();
    }

    private static void reasonCalls() {
        dealAndSite(24, "reason", Worlds::working, DealDoubts::reason, 0);
        holds(24, "Returns 0 if the member would be in doubt then", () -> {
            answers("the first deal", () -> Worlds.working(8), d -> d.reason(0, 0), 0);
            answers("the last deal", () -> Worlds.working(8), d -> d.reason(7, 5), 0);
            answers("after the decision", () -> Worlds.decided(8), d -> d.reason(7, 5), 0);
            answers("the leader is silent", () -> Worlds.silent(Worlds.working(8), 5), d -> d.reason(7, 0), 0);
            answers("it holds seven other items", () -> {
                DealDoubts d = Worlds.inDoubt(7);
                d.begin(5, 3, 7);
                return d;
            }, d -> d.reason(7, 0), 0);
        });
        holds(24, NO_CHANGE, () -> {
            for (int site = 0; site < 6; site++) {
                int there = site;
                changesNothing("reason(1, " + site + ")", RICH, d -> d.reason(1, there));
                changesNothing("reason(7, " + site + ")", FULL, d -> d.reason(7, there));
            }
        });
    }

    /**
     * Deals about the item 4: site 0 holds it for deal 2; it is no member of deal 0, working in deal 1,
     * in doubt about deal 2, and has dropped deal 3.
     */
    private static DealDoubts holding() {
        DealDoubts d = new DealDoubts();
        d.begin(5, 6, 4);
        d.begin(5, 7, 4);
        d.begin(5, 7, 4);
        d.begin(5, 7, 4);
        d.vote(2, 0, true);
        d.vote(3, 0, false);
        return d;
    }

    private static DealDoubts holdingAndSilent() {
        return Worlds.silent(holding(), 0);
    }

    private static void reasonOrder() {
        holds(24, "1 the site is no member", () -> {
            answers("neither member nor leader", () -> Worlds.deal(5, 3, 0), d -> d.reason(0, 4), 1);
            answers("the leader", () -> Worlds.deal(5, 3, 0), d -> d.reason(0, 5), 1);
            answers("before 2, it is silent", () -> Worlds.silent(Worlds.deal(5, 3, 0), 4), d -> d.reason(0, 4), 1);
            answers("before 4, it holds the item", BoundaryOfForecasts::holding, d -> d.reason(0, 0), 1);
            answers("before 2 and 4", BoundaryOfForecasts::holdingAndSilent, d -> d.reason(0, 0), 1);
        });
        holds(24, "2 it is silent", () -> {
            answers("working", () -> Worlds.silent(Worlds.deal(5, 3, 0), 0), d -> d.reason(0, 0), 2);
            answers("before 3, in doubt", BoundaryOfForecasts::holdingAndSilent, d -> d.reason(2, 0), 2);
            answers("before 3 and 4, dropped", BoundaryOfForecasts::holdingAndSilent, d -> d.reason(3, 0), 2);
            answers("before 4, working", BoundaryOfForecasts::holdingAndSilent, d -> d.reason(1, 0), 2);
            answers("it is back", () -> Worlds.silent(Worlds.deal(5, 3, 0), 0),
                d -> last(d.comeBack(0), d.reason(0, 0)), 3);
        });
        holds(24, "3 it is not in the state 0", () -> {
            answers("in doubt", () -> Worlds.deal(5, 3, 3), d -> d.reason(0, 0), 3);
            answers("done", () -> Worlds.deal(5, 3, 3), d -> last(d.decide(0), d.tell(0, 0), d.reason(0, 0)), 3);
            answers("dropped", () -> Worlds.dropped(1), d -> d.reason(0, 0), 3);
            answers("before 4, in doubt", BoundaryOfForecasts::holding, d -> d.reason(2, 0), 3);
            answers("before 4, dropped", BoundaryOfForecasts::holding, d -> d.reason(3, 0), 3);
        });
        holds(24, "4 it holds the item for another deal", () -> {
            answers("a later deal", BoundaryOfForecasts::holding, d -> d.reason(1, 0), 4);
            answers("an earlier deal", BoundaryOfForecasts::holding, d -> d.reason(d.begin(5, 3, 4), 0), 4);
            answers("another site", BoundaryOfForecasts::holding, d -> d.reason(1, 1), 0);
            answers("the next item", BoundaryOfForecasts::holding, d -> d.reason(d.begin(5, 3, 5), 0), 0);
            answers("the item before", BoundaryOfForecasts::holding, d -> d.reason(d.begin(5, 3, 3), 0), 0);
            answers("it holds it no more", BoundaryOfForecasts::holding, d -> last(d.ask(2, 0, 5), d.reason(1, 0)), 0);
        });
    }

    private static void reasonIsTrue() {
        holds(24, "Predicts how a vote with yes would end.", () -> {
            World silent = BoundaryOfForecasts::holdingAndSilent;
            for (World world : new World[] {RICH, FULL, BoundaryOfForecasts::holding, silent}) {
                int deals = world.make().deals();
                for (int place = 0; place < 6 * deals; place++) {
                    int deal = place / 6;
                    int site = place % 6;
                    int reason = world.make().reason(deal, site);
                    Call vote = d -> d.vote(deal, site, true);
                    if (reason == 0 || reason == 4) {
                        answers("a vote with the reason " + reason, world, vote, reason == 0 ? 1 : 3);
                    } else {
                        dueThrown("a vote with the reason " + reason, STATE, world, vote);
                    }
                }
            }
        });
    }

    private static void helperCalls() {
        dealAndSite(25, "helper", Worlds::working, DealDoubts::helper, -1);
        holds(25, NO_CHANGE, () -> {
            for (int site = 0; site < 6; site++) {
                int there = site;
                changesNothing("helper(1, " + site + ")", RICH, d -> d.helper(1, there));
                changesNothing("helper(7, " + site + ")", FULL, d -> d.helper(7, there));
            }
        });
    }

    private static void leastHelper() {
        holds(25, LEAST_HELPER, () -> {
            for (int place = 0; place < 36; place++) {
                int site = place / 6;
                int other = place % 6;
                if (site != other) {
                    // All others are in doubt, and the leader does not ask itself.
                    answers("a working member " + other + " for the leader " + site,
                        () -> Worlds.deal(site, Worlds.ALL, Worlds.ALL & ~(1 << other)), d -> d.helper(0, site), other);
                    answers("the leader " + other + " for " + site,
                        () -> Worlds.deal(other, Worlds.ALL, Worlds.ALL), d -> d.helper(0, site), other);
                }
            }
            answers("0 before 1", () -> Worlds.deal(0, 6, 4), d -> d.helper(0, 2), 0);
            answers("1 before 5", () -> Worlds.deal(5, 6, 4), d -> d.helper(0, 2), 1);
            answers("4 before 5", () -> Worlds.deal(5, 17, 1), d -> d.helper(0, 0), 4);
            answers("5 when 4 is silent", () -> Worlds.silent(Worlds.deal(5, 17, 1), 4), d -> d.helper(0, 0), 5);
            answers("4 when 5 is silent", () -> Worlds.silent(Worlds.deal(5, 17, 1), 5), d -> d.helper(0, 0), 4);
        });
        holds(25, "Finds the site whose answer would end the doubt of a member.", () -> {
            answers("a working member", () -> Worlds.deal(5, 7, 1), d -> d.helper(0, 0), 1);
            answers("one that has dropped it", () -> Worlds.deal(5, 7, 5),
                d -> last(d.vote(0, 1, false), d.helper(0, 0)), 1);
            answers("not one in doubt", () -> Worlds.deal(5, 7, 3), d -> d.helper(0, 0), 2);
            answers("one that has done it", () -> Worlds.deal(5, 7, 7),
                d -> last(d.decide(0), d.tell(0, 2), d.helper(0, 0)), 2);
            answers("the leader, which has decided", () -> Worlds.deal(5, 7, 7),
                d -> last(d.decide(0), d.helper(0, 0)), 5);
            answers("the leader, which has not", () -> Worlds.deal(5, 7, 7), d -> d.helper(0, 0), 5);
            answers("a leader that is in doubt", () -> Worlds.deal(1, 7, 7), d -> d.helper(0, 0), 1);
        });
    }

    private static void noHelper() {
        holds(25, "NONE if there is none", () -> {
            answers("the leader is silent, all are in doubt", () -> Worlds.silent(Worlds.deal(5, 3, 3), 5),
                d -> d.helper(0, 0), -1);
            answers("the leader itself", () -> Worlds.deal(0, 3, 3), d -> d.helper(0, 0), -1);
            answers("all others are silent", () -> Worlds.silent(Worlds.deal(5, 3, 1), 1, 2, 3, 4, 5),
                d -> d.helper(0, 0), -1);
            answers("one that has dropped it is silent", () -> Worlds.silent(Worlds.dropped(1), 1, 5),
                d -> d.helper(d.begin(0, 5, 1), 0), -1);
        });
        holds(25, "or the site is no member", () -> {
            answers("neither member nor leader", RICH, d -> d.helper(0, 3), -1);
            answers("the leader", RICH, d -> d.helper(0, 5), -1);
        });
        holds(25, "silent, or not in doubt", () -> {
            answers("silent and in doubt", RICH, d -> d.helper(2, 4), -1);
            answers("it is back", RICH, d -> last(d.comeBack(4), d.helper(2, 4)), 2);
            answers("working", RICH, d -> d.helper(0, 2), -1);
            answers("done", RICH, d -> d.helper(2, 3), -1);
            answers("dropped", RICH, d -> d.helper(1, 2), -1);
            answers("in doubt", RICH, d -> d.helper(0, 0), 2);
        });
    }

    private static void helperIsTrue() {
        holds(25, "such that ask() of it would change the state of the member", () -> {
            for (World world : new World[] {RICH, FULL, BoundaryOfForecasts::holding, () -> Worlds.inDoubt(2)}) {
                int deals = world.make().deals();
                for (int place = 0; place < 6 * deals; place++) {
                    int deal = place / 6;
                    int site = place % 6;
                    int first = -1;
                    for (int other = 5; other >= 0; other--) {
                        first = isHelp(world.make(), deal, site, other) ? other : first;
                    }
                    answers("helper(" + deal + ", " + site + ")", world, d -> d.helper(deal, site), first);
                }
            }
        });
    }

    private static boolean isHelp(DealDoubts d, int deal, int site, int other) {
        int before = d.state(deal, site);
        try {
            return d.ask(deal, site, other) != before;
        } catch (IllegalArgumentException | IllegalStateException e) {
            return false;
        }
    }

    private static void ticksCalls() {
        dealAndSite(26, "ticksToEnd", Worlds::dropped, DealDoubts::ticksToEnd, 0);
        holds(26, NO_CHANGE, () -> {
            for (int site = 0; site < 6; site++) {
                int there = site;
                changesNothing("ticksToEnd(0, " + site + ")", RICH, d -> d.ticksToEnd(0, there));
                changesNothing("ticksToEnd(1, " + site + ")", RICH, d -> d.ticksToEnd(1, there));
                changesNothing("ticksToEnd(7, " + site + ")", FULL, d -> d.ticksToEnd(7, there));
            }
        });
    }

    private static void ticksNow() {
        holds(26, "0 if it has ended it now", () -> {
            answers("done", RICH, d -> d.ticksToEnd(2, 3), 0);
            answers("dropped", RICH, d -> d.ticksToEnd(1, 2), 0);
            answers("done, and silent", RICH, d -> last(d.fallSilent(3), d.ticksToEnd(2, 3)), 0);
            World world = () -> Worlds.deal(5, 3, 1);
            answers("dropped by asking", world, d -> last(d.ask(0, 0, 1), d.ticksToEnd(0, 0)), 0);
            answers("dropped because it was asked", world, d -> last(d.ask(0, 0, 1), d.ticksToEnd(0, 1)), 0);
            answers("not yet", world, d -> d.ticksToEnd(0, 0), 3);
        });
    }

    /** Member 1 and the leader 0 are in doubt, with this patience, which is that of the settings too. */
    private static DealDoubts leaderInDoubt(int patience) {
        DealDoubts d = new DealDoubts();
        d.setPatience(patience);
        d.begin(0, 3, 0);
        d.vote(0, 0, true);
        d.vote(0, 1, true);
        return d;
    }

    private static void ticksLater() {
        holds(26, "Returns the least number of ticks after which it has ended it", () -> {
            for (int patience = 1; patience <= 20; patience++) {
                int ticks = patience;
                answers("it asks the leader, with a patience of " + patience, () -> leaderInDoubt(ticks),
                    d -> d.ticksToEnd(0, 1), patience);
                answers("the leader asks in vain first, with " + patience, () -> leaderInDoubt(ticks),
                    d -> d.ticksToEnd(0, 0), 2 * patience);
            }
            for (int passed = 1; passed < 20; passed++) {
                int ticks = passed;
                answers("after " + passed + " of 20 ticks", () -> leaderInDoubt(20),
                    d -> last(d.pass(ticks), d.ticksToEnd(0, 1)), 20 - passed);
                answers("after " + passed + " of 40 ticks", () -> leaderInDoubt(20),
                    d -> last(d.pass(ticks), d.ticksToEnd(0, 0)), 40 - passed);
            }
        });
        holds(26, "by asking or because it is asked, if nothing else happens", () -> {
            answers("a working member that is asked", () -> Worlds.deal(5, 6, 4), d -> d.ticksToEnd(0, 1), 3);
            answers("the last one of them is not asked", () -> Worlds.deal(5, 14, 4), d -> d.ticksToEnd(0, 3), -1);
            answers("asked earlier than it would ask", () -> {
                DealDoubts d = Worlds.deal(5, 7, 1);
                d.setPatience(2);
                d.vote(0, 2, true);
                return d;
            }, d -> d.ticksToEnd(0, 1), 2);
        });
    }

    private static void ticksNever() {
        holds(26, "NONE if it has not after 40 ticks", () -> {
            answers("40 ticks", () -> leaderInDoubt(20), d -> d.ticksToEnd(0, 0), 40);
            answers("40 ticks are true", () -> leaderInDoubt(20), d -> inRow(d.pass(20), d.pass(19), d.pass(1)), 101);
            answers("stuck", () -> Worlds.silent(Worlds.deal(5, 3, 3), 5), d -> d.ticksToEnd(0, 0), -1);
            answers("the leader alone is up", () -> Worlds.silent(leaderInDoubt(1), 1), d -> d.ticksToEnd(0, 0), -1);
            answers("silent, and in doubt", RICH, d -> d.ticksToEnd(2, 4), -1);
            answers("working, and nobody asks", () -> Worlds.working(1), d -> d.ticksToEnd(0, 0), -1);
            answers("working, and the leader has decided", () -> Worlds.decided(1), d -> d.ticksToEnd(0, 0), -1);
            answers("in doubt about another deal", () -> Worlds.inDoubt(7), d -> d.ticksToEnd(d.begin(5, 3, 7), 0), -1);
        });
        holds(26, "or the site is no member", () -> {
            answers("neither member nor leader", RICH, d -> d.ticksToEnd(0, 3), -1);
            answers("the leader", RICH, d -> d.ticksToEnd(0, 5), -1);
            answers("the leader, which is asked", () -> Worlds.deal(0, 6, 2), d -> d.ticksToEnd(0, 0), -1);
        });
    }

    private static void ticksAreTrue() {
        holds(26, "Predicts when a member ends a deal", () -> {
            for (World world : new World[] {RICH, FULL, () -> leaderInDoubt(20), () -> Worlds.inDoubt(2)}) {
                int deals = world.make().deals();
                for (int place = 0; place < 6 * deals; place++) {
                    int deal = place / 6;
                    int site = place % 6;
                    DealDoubts d = world.make();
                    int ticks = 0;
                    while (ticks <= 40 && d.state(deal, site) < 2) {
                        d.pass(1);
                        ticks++;
                    }
                    answers("ticksToEnd(" + deal + ", " + site + ")", world, e -> e.ticksToEnd(deal, site),
                        ticks <= 40 ? ticks : -1);
                }
            }
        });
    }
}
