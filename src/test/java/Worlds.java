/** Objects that boundary tests begin with. */
final class Worlds {
    static final int ALL = 63;
    /** Sixty characters, a complete action text of 20 actions. */
    static final String LONG_TEXT = "x0;u0;".repeat(9) + "x0;t10";

    private Worlds() {
    }

    /** Deals with the leader 5, all sites as working members, and an item each. */
    static DealDoubts working(int deals) {
        DealDoubts d = new DealDoubts();
        for (int deal = 0; deal < deals; deal++) {
            d.begin(5, ALL, deal);
        }
        return d;
    }

    /** The same, and all members are in doubt about all deals. */
    static DealDoubts inDoubt(int deals) {
        DealDoubts d = working(deals);
        for (int deal = 0; deal < deals; deal++) {
            for (int site = 0; site < 6; site++) {
                d.vote(deal, site, true);
            }
        }
        return d;
    }

    /** Deals in which all members work and the leader has decided to drop it. */
    static DealDoubts decided(int deals) {
        DealDoubts d = working(deals);
        for (int deal = 0; deal < deals; deal++) {
            d.decide(deal);
        }
        return d;
    }

    /** Deals that all members have dropped. */
    static DealDoubts dropped(int deals) {
        DealDoubts d = working(deals);
        for (int deal = 0; deal < deals; deal++) {
            for (int site = 0; site < 6; site++) {
                d.vote(deal, site, false);
            }
        }
        return d;
    }

    static DealDoubts silent(DealDoubts d, int... sites) {
        for (int site : sites) {
            d.fallSilent(site);
        }
        return d;
    }

    /** One deal; the sites of the mask are in doubt about it. */
    static DealDoubts deal(int leader, int members, int inDoubt) {
        DealDoubts d = new DealDoubts();
        d.begin(leader, members, 0);
        for (int site = 0; site < 6; site++) {
            if ((inDoubt & 1 << site) != 0) {
                d.vote(0, site, true);
            }
        }
        return d;
    }

    /** Deals with all states, and a decision of a leader that has fallen silent. */
    static DealDoubts rich() {
        DealDoubts d = new DealDoubts();
        d.setPatience(5);
        d.begin(5, 7, 4);
        d.begin(0, ALL, 4);
        d.begin(2, 24, 9);
        d.begin(4, 3, 0);
        d.decide(3);
        d.vote(0, 0, true);
        d.vote(0, 1, true);
        d.vote(1, 2, false);
        d.vote(1, 3, true);
        d.vote(2, 3, true);
        d.vote(2, 4, true);
        d.decide(2);
        d.tell(2, 3);
        d.fallSilent(4);
        d.ask(0, 0, 1);
        d.pass(2);
        Checks.append(d, "y02;a01");
        return d;
    }

    /** All that has a limit is full: deals, a log, saved states, text. */
    static DealDoubts full() {
        DealDoubts d = new DealDoubts();
        d.setPatience(2);
        for (int deal = 0; deal < 8; deal++) {
            d.begin(5, 48, deal);
            d.vote(deal, 5, true);
            d.vote(deal, 4, true);
            d.decide(deal);
            d.tell(deal, 5);
        }
        Checks.append(d, LONG_TEXT);
        return d;
    }
}
