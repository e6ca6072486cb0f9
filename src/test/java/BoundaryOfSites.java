/** Promises 7 to 10: fallSilent, comeBack, pass, setPatience. */
final class BoundaryOfSites extends Bounds {
    private BoundaryOfSites() {
    }

    static void all() {
        fallSilentCalls();
        fallSilentTerms();
        comeBackCalls();
        comeBackTerms();
        passCalls();
        passCounts();
        patienceInTicks();
        questionsInTicks();
        orderInTicks();
        setPatienceCalls();
        setPatienceTerms();
    }

    private static DealDoubts allSilent() {
        return Worlds.silent(Worlds.decided(2), 0, 1, 2, 3, 4, 5);
    }

    private static void fallSilentCalls() {
        site(7, "fallSilent", EMPTY, DealDoubts::fallSilent, 0);
        holds(7, "Returns the number of deals about which it is in doubt.", () -> {
            for (int doubts = 0; doubts <= 8; doubts++) {
                DealDoubts d = Worlds.working(8);
                for (int deal = 8 - doubts; deal < 8; deal++) {
                    d.vote(deal, 5, true);
                    d.vote(deal, 4, false);
                }
                due("fallSilent(5) with " + doubts + " votes with yes", d.fallSilent(5), doubts);
                due("fallSilent(4) with as many votes with no", d.fallSilent(4), 0);
                due("fallSilent(3) without votes", d.fallSilent(3), 0);
            }
            answers("a member that has done it", () -> {
                DealDoubts d = Worlds.deal(5, 3, 3);
                d.decide(0);
                d.tell(0, 0);
                return d;
            }, d -> d.fallSilent(0), 0);
        });
        holds(7, "Throws `IllegalStateException` if it is silent already", () -> {
            for (int site = 0; site < 6; site++) {
                int silent = site;
                refused("fallSilent of silent " + site, STATE, BoundaryOfSites::allSilent, d -> d.fallSilent(silent));
                answers("the only one that is up, " + site, BoundaryOfSites::allSilent,
                    d -> last(d.comeBack(silent), d.fallSilent(silent)), 0);
            }
            refused("fallSilent in a rich world", STATE, RICH, d -> d.fallSilent(4));
        });
        holds(7, "Undoable.", () -> {
            undoable("in doubt", () -> Worlds.deal(5, 3, 3), d -> d.fallSilent(0));
            undoable("without deals", EMPTY, d -> d.fallSilent(5));
        });
        holds(7, "A call that throws an exception changes nothing.", () -> {
            refused("no site", INDEX, RICH, d -> d.fallSilent(6));
            refused("silent already", STATE, RICH, d -> d.fallSilent(4));
        });
    }

    private static void fallSilentTerms() {
        holds(7, "When a site falls silent, it stays in all its states.", () -> {
            DealDoubts d = new DealDoubts();
            for (int deal = 0; deal < 4; deal++) {
                d.begin(5, 3, deal);
            }
            d.vote(1, 0, true);
            d.vote(2, 0, true);
            d.vote(2, 1, true);
            d.decide(2);
            d.tell(2, 0);
            d.vote(3, 0, false);
            due("fallSilent(0)", d.fallSilent(0), 1);
            for (int deal = 0; deal < 4; deal++) {
                due("state(" + deal + ", 0)", d.state(deal, 0), deal);
            }
            due("patience(1, 0)", d.patience(1, 0), 3);
            due("held(0)", d.held(0), 2);
        });
        holds(7, "Each site has a log, which stays when the site is silent.", () -> {
            DealDoubts d = Worlds.full();
            d.fallSilent(5);
            due("a full log, logLength(5)", d.logLength(5), 24);
            due("a full log, log(5, 0)", d.log(5, 0), 1);
            due("a full log, log(5, 23)", d.log(5, 23), 72);
            d.fallSilent(0);
            due("an empty log, logLength(0)", d.logLength(0), 0);
            d.comeBack(5);
            due("logLength(5) when it is back", d.logLength(5), 24);
        });
        holds(7, "A site is up or silent", () -> {
            DealDoubts d = new DealDoubts();
            d.fallSilent(5);
            due("isUp(5)", d.isUp(5), false);
            d.comeBack(5);
            due("isUp(5) when it is back", d.isUp(5), true);
        });
    }

    private static void comeBackCalls() {
        site(8, "comeBack", BoundaryOfSites::allSilent, (d, site) -> d.comeBack(site), 2);
        holds(8, "Returns the number of entries that its log gets by this.", () -> {
            for (int votes = 0; votes <= 8; votes++) {
                DealDoubts d = Worlds.working(8);
                for (int deal = 0; deal < votes; deal++) {
                    d.vote(deal, 5, false);
                    d.vote(deal, 4, true);
                }
                Worlds.silent(d, 4, 5);
                due("comeBack(4) after " + votes + " votes", d.comeBack(4), 8 - votes);
                due("comeBack(5), which leads eight deals", d.comeBack(5), 16 - votes);
                due("logLength(4)", d.logLength(4), 8);
                due("logLength(5)", d.logLength(5), 16);
            }
            answers("comeBack without deals", () -> Worlds.silent(new DealDoubts(), 0), d -> d.comeBack(0), 0);
            answers("comeBack with a full log", () -> Worlds.silent(Worlds.full(), 5), d -> d.comeBack(5), 0);
        });
        holds(8, "Throws `IllegalStateException` if it is up", () -> {
            for (int site = 0; site < 6; site++) {
                int up = site;
                refused("comeBack of " + site, STATE, EMPTY, d -> d.comeBack(up));
                refused("comeBack of " + site + ", which is back", STATE, () -> {
                    DealDoubts d = Worlds.silent(new DealDoubts(), up);
                    d.comeBack(up);
                    return d;
                }, d -> d.comeBack(up));
                answers("comeBack of silent " + site, BoundaryOfSites::allSilent, d -> d.comeBack(up), 2);
            }
            refused("comeBack in a rich world", STATE, RICH, d -> d.comeBack(0));
        });
        holds(8, "Undoable.", () -> {
            undoable("a leader", () -> Worlds.silent(Worlds.working(2), 5), d -> d.comeBack(5));
            undoable("without deals", () -> Worlds.silent(new DealDoubts(), 0), d -> d.comeBack(0));
        });
        holds(8, "A call that throws an exception changes nothing.", () -> {
            refused("no site", INDEX, RICH, d -> d.comeBack(-1));
            refused("it is up", STATE, FULL, d -> d.comeBack(5));
        });
    }

    private static void comeBackTerms() {
        holds(8, "When it comes back, the deals are gone through in ascending order of their numbers", () -> {
            DealDoubts d = Worlds.silent(Worlds.working(8), 0);
            d.comeBack(0);
            dueLog("a working member of eight deals", d, 0, 3, 13, 23, 33, 43, 53, 63, 73);
        });
        holds(8, "if the site is a working member, it gets into the state 3", () -> {
            DealDoubts d = new DealDoubts();
            d.begin(5, 3, 0);
            d.begin(5, 3, 1);
            d.begin(5, 6, 2);
            d.vote(0, 0, true);
            d.fallSilent(0);
            due("comeBack(0)", d.comeBack(0), 1);
            due("in doubt, state(0, 0)", d.state(0, 0), 1);
            due("working, state(1, 0)", d.state(1, 0), 3);
            due("no member, state(2, 0)", d.state(2, 0), -1);
            due("another one, state(1, 1)", d.state(1, 1), 0);
        });
        holds(8, "and then, if it is the leader and has no decision, its decision becomes 3", () -> {
            DealDoubts d = new DealDoubts();
            d.begin(5, 33, 0);
            d.begin(5, 3, 1);
            d.begin(5, 3, 2);
            d.begin(0, 3, 3);
            d.vote(1, 0, true);
            d.vote(1, 1, true);
            d.decide(1);
            d.vote(2, 0, false);
            d.vote(2, 1, false);
            d.fallSilent(5);
            due("comeBack(5)", d.comeBack(5), 3);
            due("decision(0)", d.decision(0), 3);
            due("it has a decision already, decision(1)", d.decision(1), 2);
            due("all have ended it, decision(2)", d.decision(2), 3);
            due("another leader, decision(3)", d.decision(3), 0);
            dueLog("first the member's end, then the decision", d, 5, 15, 3, 6, 26);
            due("isUp(5)", d.isUp(5), true);
        });
        holds(8, "even if nothing changes", () -> {
            DealDoubts d = Worlds.silent(new DealDoubts(), 0);
            d.comeBack(0);
            due("savedStates()", d.savedStates(), 2);
        });
    }

    /** Members 0 and 1 are in doubt about a deal of a silent leader; the patience of the settings is 20. */
    private static DealDoubts patient() {
        DealDoubts d = new DealDoubts();
        d.setPatience(20);
        d.begin(5, 3, 0);
        d.vote(0, 0, true);
        d.vote(0, 1, true);
        d.fallSilent(5);
        return d;
    }

    private static void passCalls() {
        holds(9, "`ticks`: 1 to 20", () -> {
            for (int ticks = 1; ticks <= 20; ticks++) {
                int number = ticks;
                answers("pass(" + ticks + ")", EMPTY, d -> d.pass(number), 0);
                int left = ticks < 20 ? 20 - ticks : 20;
                answers("patience after pass(" + ticks + ")", BoundaryOfSites::patient,
                    d -> last(d.pass(number), d.patience(0, 0)), left);
            }
            refused("pass(0)", ARGUMENT, EMPTY, d -> d.pass(0));
            refused("pass(21)", ARGUMENT, EMPTY, d -> d.pass(21));
        });
        holds(9, "Throws `IllegalArgumentException` if ticks is out of range", () -> {
            for (int ticks : new int[] {0, -1, 21, 22, 40, LEAST, MOST}) {
                refused("pass(" + ticks + ")", ARGUMENT, RICH, d -> d.pass(ticks));
                refused("pass(" + ticks + ")", ARGUMENT, BoundaryOfSites::patient, d -> d.pass(ticks));
            }
        });
        holds(9, "Undoable.", () -> {
            undoable("pass(20) with questions", BoundaryOfSites::patient, d -> d.pass(20));
            undoable("pass(1)", BoundaryOfSites::patient, d -> d.pass(1));
        });
        holds(9, "even if nothing changes", () -> {
            undoable("pass(1) without deals", EMPTY, d -> d.pass(1));
            undoable("pass(20) without deals", EMPTY, d -> d.pass(20));
        });
        holds(9, "A call that throws an exception changes nothing.", () -> {
            refused("pass(0)", ARGUMENT, FULL, d -> d.pass(0));
            refused("pass(21)", ARGUMENT, FULL, d -> d.pass(21));
        });
    }

    private static void passCounts() {
        holds(9, "Returns the number of members that end a deal in them (by asking, or because they are asked)", () -> {
            answers("none, without deals", EMPTY, d -> d.pass(20), 0);
            answers("none, nobody in doubt", () -> Worlds.working(8), d -> d.pass(20), 0);
            answers("none, nobody has an answer", BoundaryOfSites::patient, d -> d.pass(20), 0);
            answers("none, before the last tick", () -> Worlds.deal(5, 3, 3), d -> d.pass(2), 0);
            answers("two by asking", () -> Worlds.deal(5, 3, 3), d -> d.pass(3), 2);
            answers("one by asking, one because it is asked", () -> Worlds.deal(5, 3, 1), d -> d.pass(3), 2);
            answers("one by asking the leader", () -> Worlds.deal(0, 6, 2), d -> d.pass(3), 1);
            answers("those that have ended it do not count", () -> Worlds.dropped(8), d -> d.pass(20), 0);
            // The leader asks in vain first, and has to wait for its second round.
            answers("all but the leader", () -> lead(0), d -> d.pass(3), 40);
            answers("all members of all deals", () -> lead(0), d -> d.pass(6), 48);
            answers("done, the questions find the last leader", () -> decideAll(lead(5)), d -> d.pass(3), 48);
        });
    }

    /** Eight deals of one leader, about which all six members are in doubt. */
    private static DealDoubts lead(int leader) {
        DealDoubts d = new DealDoubts();
        for (int deal = 0; deal < 8; deal++) {
            d.begin(leader, Worlds.ALL, deal);
            for (int site = 0; site < 6; site++) {
                d.vote(deal, site, true);
            }
        }
        return d;
    }

    private static DealDoubts decideAll(DealDoubts d) {
        for (int deal = 0; deal < 8; deal++) {
            d.decide(deal);
        }
        return d;
    }

    private static void patienceInTicks() {
        holds(9, "if the member is up and in doubt, its patience for this deal decreases by 1", () -> {
            DealDoubts d = Worlds.working(8);
            d.setPatience(20);
            d.vote(7, 0, true);
            d.setPatience(2);
            d.vote(7, 4, true);
            d.vote(0, 0, true);
            d.fallSilent(4);
            d.pass(1);
            due("patience(7, 0)", d.patience(7, 0), 19);
            due("patience(0, 0)", d.patience(0, 0), 1);
            due("silent, patience(7, 4)", d.patience(7, 4), 2);
            due("working, state(7, 1)", d.state(7, 1), 0);
            due("asked()", d.asked(), 0);
            d.comeBack(4);
            d.pass(1);
            due("up again, patience(7, 4)", d.patience(7, 4), 1);
        });
        holds(9, "When it is 0 then, the member asks", () -> {
            for (int patience : new int[] {1, 2, 19, 20}) {
                DealDoubts d = new DealDoubts();
                d.begin(5, 3, 0);
                d.setPatience(patience);
                d.vote(0, 0, true);
                if (patience > 1) {
                    due("the tick before", d.pass(patience - 1), 0);
                    due("patience(0, 0)", d.patience(0, 0), 1);
                }
                due("asked()", d.asked(), 0);
                due("the tick with a patience of " + patience, d.pass(1), 2);
                due("asked()", d.asked(), 1);
            }
        });
        holds(9, "and its patience becomes the patience of the settings again", () -> {
            for (int patience : new int[] {1, 2, 19, 20}) {
                DealDoubts d = Worlds.silent(Worlds.deal(5, 3, 3), 5);
                d.setPatience(patience);
                due("patience(0, 0)", d.patience(0, 0), 3);
                d.pass(3);
                due("patience(0, 0) after the questions", d.patience(0, 0), patience);
                d.pass(patience);
                due("patience(0, 0) after the next ones", d.patience(0, 0), patience);
                due("asked()", d.asked(), 2 * 2 * 4);
            }
        });
        holds(9, "The patience of the settings is 1 to 20, at first 3.", () -> {
            answers("asked() after two ticks", () -> Worlds.deal(5, 3, 1), d -> last(d.pass(2), d.asked()), 0);
            answers("asked() after three ticks", () -> Worlds.deal(5, 3, 1), d -> inRow(d.pass(3), d.asked()), 21);
        });
    }

    private static void questionsInTicks() {
        holds(9, "the member asks all other sites that are up", () -> {
            DealDoubts c = Worlds.deal(0, 3, 1);
            c.pass(3);
            due("one other has an answer, asked()", c.asked(), 1);
            DealDoubts b = Worlds.deal(0, 33, 33);
            b.pass(3);
            due("0 asks 1 to 5; then 5 asks 0, asked()", b.asked(), 6);
            DealDoubts d = Worlds.silent(Worlds.deal(5, 3, 3), 5);
            d.pass(3);
            due("four others are up, asked()", d.asked(), 2 * 4);
            DealDoubts e = Worlds.silent(Worlds.deal(5, 3, 3), 5, 4, 3, 2);
            e.pass(3);
            due("one other is up, asked()", e.asked(), 2);
            DealDoubts f = Worlds.silent(Worlds.deal(5, 3, 3), 5, 4, 3, 2, 1);
            f.pass(3);
            due("no other is up, asked()", f.asked(), 0);
            due("its patience", f.patience(0, 0), 3);
        });
        holds(9, "in ascending order of their numbers, until it has ended the deal", () -> {
            DealDoubts d = Worlds.deal(5, 30, 6);
            due("pass(3)", d.pass(3), 3);
            due("1 asks 0, 2 and 3; 2 asks 0 and 1", d.asked(), 5);
            due("the fourth member is not asked", d.state(0, 4), 0);
            due("the leader is not asked", d.decision(0), 0);
            DealDoubts e = Worlds.deal(0, 48, 48);
            due("the leader is asked first", e.pass(3), 2);
            due("4 asks 0; 5 asks 0", e.asked(), 2);
            DealDoubts f = Worlds.deal(5, 3, 3);
            due("the leader is asked last", f.pass(3), 2);
            due("0 asks 1 to 5; 1 asks 0", f.asked(), 6);
        });
    }

    private static void orderInTicks() {
        holds(9, "In a tick, for each deal in ascending order of the numbers", () -> {
            DealDoubts d = new DealDoubts();
            d.setPatience(1);
            for (int deal = 0; deal < 8; deal++) {
                d.begin(5, 3, deal);
            }
            for (int deal = 7; deal >= 0; deal--) {
                d.vote(deal, 0, true);
                d.vote(deal, 1, true);
            }
            due("pass(1)", d.pass(1), 16);
            dueLog("the leader of eight deals", d, 5, 6, 16, 26, 36, 46, 56, 66, 76);
            due("logLength(0)", d.logLength(0), 16);
            for (int deal = 0; deal < 8; deal++) {
                due("log(0, " + (8 + deal) + ")", d.log(0, 8 + deal), 10 * deal + 3);
            }
        });
        holds(9, "and for each of its members in ascending order of the numbers", () -> {
            DealDoubts d = Worlds.deal(5, 17, 17);
            due("pass(3)", d.pass(3), 2);
            due("0 asks 1 to 5; then 4 asks 0", d.asked(), 6);
        });
    }

    private static void setPatienceCalls() {
        holds(10, "`patience`: 1 to 20", () -> {
            for (int patience = 1; patience <= 20; patience++) {
                DealDoubts d = Worlds.working(1);
                d.setPatience(patience);
                d.vote(0, 5, true);
                due("patience of a vote after setPatience(" + patience + ")", d.patience(0, 5), patience);
            }
            refused("setPatience(0)", ARGUMENT, EMPTY, d -> d.setPatience(0));
            refused("setPatience(21)", ARGUMENT, EMPTY, d -> d.setPatience(21));
        });
        holds(10, "Throws `IllegalArgumentException` if patience is out of range", () -> {
            for (int patience : new int[] {0, -1, 21, 22, LEAST, MOST}) {
                refused("setPatience(" + patience + ")", ARGUMENT, RICH, d -> d.setPatience(patience));
                answers("setPatience(9) after it", EMPTY, d -> {
                    try {
                        return d.setPatience(patience);
                    } catch (IllegalArgumentException e) {
                        return d.setPatience(9);
                    }
                }, 3);
            }
        });
        holds(10, "Returns the previous patience of the settings.", () -> {
            DealDoubts d = new DealDoubts();
            int previous = 3;
            for (int patience : new int[] {1, 20, 20, 1, 2, 19}) {
                due("setPatience(" + patience + ")", d.setPatience(patience), previous);
                previous = patience;
            }
        });
        holds(10, "Undoable.", () -> {
            undoable("setPatience(20)", EMPTY, d -> d.setPatience(20));
            answers("setPatience after undo", EMPTY, d -> inRow(d.setPatience(20), d.undo(), d.setPatience(1)), 303);
        });
        holds(10, "A call that throws an exception changes nothing.", () -> {
            refused("setPatience(0)", ARGUMENT, FULL, d -> d.setPatience(0));
            refused("setPatience(21)", ARGUMENT, FULL, d -> d.setPatience(21));
        });
    }

    private static void setPatienceTerms() {
        holds(10, "The patience of the settings is 1 to 20, at first 3.", () -> {
            answers("the first setPatience", EMPTY, d -> d.setPatience(3), 3);
            answers("setPatience(1)", EMPTY, d -> last(d.setPatience(1), d.setPatience(20)), 1);
            answers("setPatience(20)", EMPTY, d -> last(d.setPatience(20), d.setPatience(1)), 20);
        });
        holds(10, "even if nothing changes", () -> undoable("setPatience(3) at first", EMPTY, d -> d.setPatience(3)));
        holds(10, "becomes the patience of the settings when it gets into the state 1", () -> {
            DealDoubts d = Worlds.deal(5, 3, 1);
            d.setPatience(20);
            due("it stays for one that is in doubt already", d.patience(0, 0), 3);
            d.vote(0, 1, true);
            due("it counts for the next vote", d.patience(0, 1), 20);
        });
    }
}
