/** Deals among six sites that end all in the same way. ../shared/DOC.md promises what each call does. */
public final class DealDoubts {
    /** There is no such number. */
    public static final int NONE = -1;

    private static final int SITES = 6;
    private static final int ALL_SITES = 63;
    private static final int DEALS = 8;
    private static final int ITEMS = 10;
    private static final int MOST_TICKS = 20;
    private static final int MOST_PATIENCE = 20;
    private static final int FIRST_PATIENCE = 3;
    private static final int FORECAST_TICKS = 40;
    private static final int SAVED_LIMIT = 6;
    private static final int TEXT_LIMIT = 60;
    // For one deal a site writes at most its vote, its end, and its decision as the leader.
    private static final int LOG_LIMIT = 3 * DEALS;

    private static final int WORKING = 0;
    private static final int IN_DOUBT = 1;
    private static final int DONE = 2;
    private static final int DROPPED = 3;
    private static final int UNDECIDED = 0;

    private final Net net = new Net();
    // Made once, because a forecast must change nothing and should make nothing.
    private final Net forecast = new Net();
    private final History history = new History();
    private final ActionText text = new ActionText();

    public DealDoubts() {
    }

    // ---- deals

    public int begin(int leader, int members, int item)
            throws IndexOutOfBoundsException, IllegalArgumentException, IllegalStateException {
        checkSite(leader);
        if (members < 1 || members > ALL_SITES || Integer.bitCount(members) < 2) {
            throw new IllegalArgumentException("members is no mask of two or more sites");
        }
        if (item < 0 || item >= ITEMS) {
            throw new IllegalArgumentException("item is not 0 to 9");
        }
        if (!net.canBegin(leader, members)) {
            throw new IllegalStateException("there are 8 deals, or the leader or a member is silent");
        }
        history.save(net);
        return net.addDeal(leader, members, item);
    }

    public int vote(int deal, int site, boolean isYes) throws IndexOutOfBoundsException, IllegalStateException {
        checkDealAndSite(deal, site);
        if (!net.canVote(deal, site)) {
            throw new IllegalStateException("the site is no member, is silent, or is not in the state 0");
        }
        history.save(net);
        return net.castVote(deal, site, isYes);
    }

    public int decide(int deal) throws IndexOutOfBoundsException, IllegalStateException {
        checkDeal(deal);
        if (!net.canDecide(deal)) {
            throw new IllegalStateException("the leader is silent, or has a decision already");
        }
        history.save(net);
        return net.makeDecision(deal);
    }

    public int tell(int deal, int site) throws IndexOutOfBoundsException, IllegalStateException {
        checkDealAndSite(deal, site);
        if (!net.canTell(deal, site)) {
            throw new IllegalStateException("no member, the leader or the site is silent, or there is no decision");
        }
        history.save(net);
        return net.tellMember(deal, site);
    }

    public int ask(int deal, int site, int other)
            throws IndexOutOfBoundsException, IllegalArgumentException, IllegalStateException {
        checkDealAndSite(deal, site);
        checkSite(other);
        if (site == other) {
            throw new IllegalArgumentException("both sites are the same");
        }
        if (!net.canAsk(deal, site, other)) {
            throw new IllegalStateException("no member, one of both is silent, or the site is not in the state 1");
        }
        history.save(net);
        return net.putQuestion(deal, site, other);
    }

    // ---- sites, time

    public int fallSilent(int site) throws IndexOutOfBoundsException, IllegalStateException {
        checkSite(site);
        if (!net.isAwake(site)) {
            throw new IllegalStateException("the site is silent already");
        }
        history.save(net);
        return net.silence(site);
    }

    public int comeBack(int site) throws IndexOutOfBoundsException, IllegalStateException {
        checkSite(site);
        if (net.isAwake(site)) {
            throw new IllegalStateException("the site is up");
        }
        history.save(net);
        return net.wake(site);
    }

    public int pass(int ticks) throws IllegalArgumentException {
        if (ticks < 1 || ticks > MOST_TICKS) {
            throw new IllegalArgumentException("ticks is not 1 to 20");
        }
        history.save(net);
        return net.letPass(ticks);
    }

    public int setPatience(int patience) throws IllegalArgumentException {
        if (patience < 1 || patience > MOST_PATIENCE) {
            throw new IllegalArgumentException("patience is not 1 to 20");
        }
        history.save(net);
        return net.changePatience(patience);
    }

    // ---- queries

    public int deals() {
        return net.dealCount();
    }

    public boolean isUp(int site) throws IndexOutOfBoundsException {
        checkSite(site);
        return net.isAwake(site);
    }

    public int state(int deal, int site) throws IndexOutOfBoundsException {
        checkDealAndSite(deal, site);
        return net.stateOf(deal, site);
    }

    public int decision(int deal) throws IndexOutOfBoundsException {
        checkDeal(deal);
        return net.decisionOf(deal);
    }

    public int leader(int deal) throws IndexOutOfBoundsException {
        checkDeal(deal);
        return net.leaderOf(deal);
    }

    public int patience(int deal, int site) throws IndexOutOfBoundsException {
        checkDealAndSite(deal, site);
        return net.patienceOf(deal, site);
    }

    public int open() {
        return net.countOpen();
    }

    public int stuck() {
        return net.countStuck();
    }

    public int logLength(int site) throws IndexOutOfBoundsException {
        checkSite(site);
        return net.entriesOf(site);
    }

    public int log(int site, int index) throws IndexOutOfBoundsException {
        checkSite(site);
        if (index < 0) {
            throw new IndexOutOfBoundsException("index is negative");
        }
        return net.entryAt(site, index);
    }

    public int held(int site) throws IndexOutOfBoundsException {
        checkSite(site);
        return net.itemsHeldBy(site);
    }

    public int asked() {
        return net.questionCount();
    }

    public double doubtShare() {
        int all = net.countMembers();
        return all > 0 ? (double) net.countInState(IN_DOUBT) / (double) all : 0.0;
    }

    // ---- forecasts; they change nothing

    public int reason(int deal, int site) throws IndexOutOfBoundsException {
        checkDealAndSite(deal, site);
        return net.reasonAgainstYes(deal, site);
    }

    public int helper(int deal, int site) throws IndexOutOfBoundsException {
        checkDealAndSite(deal, site);
        return net.helperFor(deal, site);
    }

    public int ticksToEnd(int deal, int site) throws IndexOutOfBoundsException {
        checkDealAndSite(deal, site);
        forecast.copyFrom(net);
        for (int ticks = 0; ticks <= FORECAST_TICKS; ticks++) {
            if (forecast.hasEnded(deal, site)) {
                return ticks;
            }
            // Deals touch one another by votes alone, so the other deals need no ticks here.
            forecast.tickDeal(deal);
        }
        return NONE;
    }

    // ---- action text

    public int append(int code) throws IllegalArgumentException, IllegalStateException {
        if (code < 33 || code > 126) {
            throw new IllegalArgumentException("code is not 33 to 126");
        }
        if (text.isFull()) {
            throw new IllegalStateException("the buffer contains 60 characters");
        }
        return text.add(code);
    }

    public int clearText() {
        return text.clear();
    }

    public int firstError() {
        return text.errorIndex();
    }

    public int run() throws IllegalArgumentException {
        if (!text.isComplete()) {
            throw new IllegalArgumentException("the buffer is not a complete action text");
        }
        history.save(net);
        int actions = 0;
        int start = 0;
        int size = text.size();
        for (int end = 0; end <= size; end++) {
            if (text.isActionEnd(end)) {
                if (perform(start, end) == NONE) {
                    break;
                }
                actions++;
                start = end + 1;
            }
        }
        text.clear();
        return actions;
    }

    // ---- undo

    public int undo() throws IllegalStateException {
        if (history.size() == 0) {
            throw new IllegalStateException("no state is saved");
        }
        history.restore(net);
        return history.size();
    }

    public int savedStates() {
        return history.size();
    }

    public long digest() {
        return net.hash();
    }

    /** Does the action between two indexes of the buffer: what its method returns, NONE if it would throw. */
    private int perform(int start, int end) {
        int first = text.digitAt(start + 1);
        int second = text.digitAt(start + 2);
        switch (text.signAt(start)) {
            case 'y':
                return net.castVote(first, second, true);
            case 'n':
                return net.castVote(first, second, false);
            case 'd':
                return net.makeDecision(first);
            case 'g':
                return net.tellMember(first, second);
            case 'a':
                return net.putQuestion(first, second, text.digitAt(start + 3));
            case 'x':
                return net.silence(first);
            case 'u':
                return net.wake(first);
            case 't':
                return net.letPass(text.numberIn(start + 1, end));
            default:
                return NONE;
        }
    }

    private void checkDeal(int deal) {
        if (!net.hasDeal(deal)) {
            throw new IndexOutOfBoundsException("there is no such deal");
        }
    }

    private void checkDealAndSite(int deal, int site) {
        checkDeal(deal);
        checkSite(site);
    }

    private static void checkSite(int site) {
        if (!isSite(site)) {
            throw new IndexOutOfBoundsException("there is no such site");
        }
    }

    private static boolean isSite(int site) {
        return site >= 0 && site < SITES;
    }

    /**
     * All that undo brings back. What acts here (castVote to letPass) does nothing and returns NONE
     * where the call of the face would throw, so that an action text can stop there.
     */
    private static final class Net {
        private int dealCount = 0;
        private int sitesUp = ALL_SITES;
        private int questionCount = 0;
        private int freshPatience = FIRST_PATIENCE;
        private final int[] leaders = new int[DEALS];
        private final int[] items = new int[DEALS];
        private final int[] decisions = new int[DEALS];
        // NONE where the site is no member.
        private final int[] states = new int[DEALS * SITES];
        private final int[] patiences = new int[DEALS * SITES];
        private final int[] logLengths = new int[SITES];
        private final int[] logs = new int[SITES * LOG_LIMIT];

        void copyFrom(Net other) {
            dealCount = other.dealCount;
            sitesUp = other.sitesUp;
            questionCount = other.questionCount;
            freshPatience = other.freshPatience;
            copyRow(other.leaders, leaders);
            copyRow(other.items, items);
            copyRow(other.decisions, decisions);
            copyRow(other.states, states);
            copyRow(other.patiences, patiences);
            copyRow(other.logLengths, logLengths);
            copyRow(other.logs, logs);
        }

        private static void copyRow(int[] from, int[] to) {
            System.arraycopy(from, 0, to, 0, Math.min(from.length, to.length));
        }

        // What there is

        int dealCount() {
            return dealCount;
        }

        int questionCount() {
            return questionCount;
        }

        boolean hasDeal(int deal) {
            return deal >= 0 && deal < dealCount;
        }

        boolean isAwake(int site) {
            return site >= 0 && site < SITES && (sitesUp >> site & 1) != 0;
        }

        int leaderOf(int deal) {
            return hasDeal(deal) ? leaders[deal] : NONE;
        }

        int decisionOf(int deal) {
            return hasDeal(deal) ? decisions[deal] : NONE;
        }

        int stateOf(int deal, int site) {
            boolean isThere = deal >= 0 && deal < dealCount && site >= 0 && site < SITES;
            return isThere ? states[deal * SITES + site] : NONE;
        }

        int patienceOf(int deal, int site) {
            return stateOf(deal, site) == IN_DOUBT ? patiences[deal * SITES + site] : NONE;
        }

        boolean hasEnded(int deal, int site) {
            return isEnd(stateOf(deal, site));
        }

        int entriesOf(int site) {
            return isSite(site) ? logLengths[site] : 0;
        }

        int entryAt(int site, int index) {
            return index >= 0 && index < entriesOf(site) ? logs[site * LOG_LIMIT + index] : NONE;
        }

        int itemsHeldBy(int site) {
            int mask = 0;
            for (int deal = 0; deal < dealCount; deal++) {
                if (stateOf(deal, site) == IN_DOUBT) {
                    mask |= 1 << items[deal];
                }
            }
            return mask;
        }

        private static boolean isEnd(int state) {
            return state == DONE || state == DROPPED;
        }

        // What may be done

        boolean canBegin(int leader, int mask) {
            int needed = mask | 1 << leader;
            return dealCount < DEALS && (sitesUp & needed) == needed;
        }

        boolean canVote(int deal, int site) {
            return isAwake(site) && stateOf(deal, site) == WORKING;
        }

        boolean canDecide(int deal) {
            return isAwake(leaderOf(deal)) && decisionOf(deal) == UNDECIDED;
        }

        boolean canTell(int deal, int site) {
            boolean areBothUp = isAwake(site) && isAwake(leaderOf(deal));
            return areBothUp && stateOf(deal, site) != NONE && isEnd(decisionOf(deal));
        }

        boolean canAsk(int deal, int site, int other) {
            return site != other && isAwake(site) && isAwake(other) && stateOf(deal, site) == IN_DOUBT;
        }

        // Deals

        int addDeal(int leader, int mask, int item) {
            if (!canBegin(leader, mask)) {
                return NONE;
            }
            int deal = dealCount;
            leaders[deal] = leader;
            items[deal] = item;
            decisions[deal] = UNDECIDED;
            for (int site = 0; site < SITES; site++) {
                states[deal * SITES + site] = (mask >> site & 1) != 0 ? WORKING : NONE;
            }
            dealCount++;
            return deal;
        }

        int castVote(int deal, int site, boolean isYes) {
            if (!canVote(deal, site)) {
                return NONE;
            }
            int state = isYes && !holdsForAnother(deal, site) ? IN_DOUBT : DROPPED;
            enter(deal, site, state);
            return state;
        }

        private boolean holdsForAnother(int deal, int site) {
            for (int other = 0; other < dealCount; other++) {
                if (other != deal && items[other] == items[deal] && stateOf(other, site) == IN_DOUBT) {
                    return true;
                }
            }
            return false;
        }

        int makeDecision(int deal) {
            if (!canDecide(deal)) {
                return NONE;
            }
            int decision = areAllInDoubt(deal) ? DONE : DROPPED;
            settle(deal, decision);
            return decision;
        }

        private boolean areAllInDoubt(int deal) {
            for (int site = 0; site < SITES; site++) {
                int state = stateOf(deal, site);
                if (state != NONE && state != IN_DOUBT) {
                    return false;
                }
            }
            return true;
        }

        int tellMember(int deal, int site) {
            if (!canTell(deal, site)) {
                return NONE;
            }
            int decision = decisionOf(deal);
            int state = stateOf(deal, site);
            if (state == IN_DOUBT || state == WORKING && decision == DROPPED) {
                enter(deal, site, decision);
            }
            return stateOf(deal, site);
        }

        int putQuestion(int deal, int site, int other) {
            if (!canAsk(deal, site, other)) {
                return NONE;
            }
            questionCount++;
            int answer = stateOf(deal, other);
            if (other == leaderOf(deal)) {
                if (decisionOf(deal) == UNDECIDED) {
                    settle(deal, DROPPED);
                }
                answer = decisionOf(deal);
            } else if (answer == WORKING) {
                enter(deal, other, DROPPED);
                answer = DROPPED;
            }
            if (isEnd(answer)) {
                enter(deal, site, answer);
            }
            return stateOf(deal, site);
        }

        private void enter(int deal, int site, int state) {
            if (stateOf(deal, site) == NONE) {
                return;
            }
            states[deal * SITES + site] = state;
            if (state == IN_DOUBT) {
                patiences[deal * SITES + site] = freshPatience;
            }
            write(site, 10 * deal + state);
        }

        private void settle(int deal, int decision) {
            if (!hasDeal(deal)) {
                return;
            }
            decisions[deal] = decision;
            // The log tells a leader's decision, 5 or 6, from a member's end, 2 or 3.
            write(leaders[deal], 10 * deal + decision + 3);
        }

        private void write(int site, int entry) {
            if (site >= 0 && site < SITES && logLengths[site] < LOG_LIMIT) {
                logs[site * LOG_LIMIT + logLengths[site]] = entry;
                logLengths[site]++;
            }
        }

        // Sites, time

        int silence(int site) {
            if (!isAwake(site)) {
                return NONE;
            }
            sitesUp &= ~(1 << site);
            int doubts = 0;
            for (int deal = 0; deal < dealCount; deal++) {
                if (stateOf(deal, site) == IN_DOUBT) {
                    doubts++;
                }
            }
            return doubts;
        }

        int wake(int site) {
            if (!isSite(site) || isAwake(site)) {
                return NONE;
            }
            int before = entriesOf(site);
            sitesUp |= 1 << site;
            for (int deal = 0; deal < dealCount; deal++) {
                if (stateOf(deal, site) == WORKING) {
                    enter(deal, site, DROPPED);
                }
                if (leaderOf(deal) == site && decisionOf(deal) == UNDECIDED) {
                    settle(deal, DROPPED);
                }
            }
            return entriesOf(site) - before;
        }

        int letPass(int ticks) {
            // A member that has ended a deal stays so: the difference is those that end one now.
            int before = countInState(DONE) + countInState(DROPPED);
            for (int tick = 0; tick < ticks; tick++) {
                for (int deal = 0; deal < dealCount; deal++) {
                    tickDeal(deal);
                }
            }
            return countInState(DONE) + countInState(DROPPED) - before;
        }

        void tickDeal(int deal) {
            for (int site = 0; site < SITES; site++) {
                if (losesPatience(deal, site)) {
                    for (int other = 0; other < SITES; other++) {
                        putQuestion(deal, site, other);
                    }
                }
            }
        }

        private boolean losesPatience(int deal, int site) {
            if (!isAwake(site) || stateOf(deal, site) != IN_DOUBT) {
                return false;
            }
            int cell = deal * SITES + site;
            patiences[cell]--;
            if (patiences[cell] > 0) {
                return false;
            }
            patiences[cell] = freshPatience;
            return true;
        }

        int changePatience(int patience) {
            int previous = freshPatience;
            freshPatience = patience;
            return previous;
        }

        // Counts

        int countOpen() {
            int count = 0;
            for (int deal = 0; deal < dealCount; deal++) {
                if (isOpen(deal)) {
                    count++;
                }
            }
            return count;
        }

        private boolean isOpen(int deal) {
            for (int site = 0; site < SITES; site++) {
                int state = stateOf(deal, site);
                if (state == WORKING || state == IN_DOUBT) {
                    return true;
                }
            }
            return false;
        }

        int countStuck() {
            int count = 0;
            for (int deal = 0; deal < dealCount; deal++) {
                if (isStuck(deal)) {
                    count++;
                }
            }
            return count;
        }

        private boolean isStuck(int deal) {
            int doubts = 0;
            for (int site = 0; site < SITES; site++) {
                if (helperFor(deal, site) != NONE) {
                    return false;
                }
                if (isAwake(site) && stateOf(deal, site) == IN_DOUBT) {
                    doubts++;
                }
            }
            return doubts > 0;
        }

        int countMembers() {
            return dealCount * SITES - countInState(NONE);
        }

        int countInState(int state) {
            int count = 0;
            for (int deal = 0; deal < dealCount; deal++) {
                for (int site = 0; site < SITES; site++) {
                    if (stateOf(deal, site) == state) {
                        count++;
                    }
                }
            }
            return count;
        }

        // Forecasts

        int reasonAgainstYes(int deal, int site) {
            int state = stateOf(deal, site);
            if (state == NONE) {
                return 1;
            }
            if (!isAwake(site)) {
                return 2;
            }
            if (state != WORKING) {
                return 3;
            }
            return holdsForAnother(deal, site) ? 4 : 0;
        }

        int helperFor(int deal, int site) {
            int leader = leaderOf(deal);
            for (int other = 0; other < SITES; other++) {
                boolean hasAnswer = other == leader || isAnswer(stateOf(deal, other));
                if (hasAnswer && canAsk(deal, site, other)) {
                    return other;
                }
            }
            return NONE;
        }

        private static boolean isAnswer(int state) {
            // A working member that is asked drops the deal first, and so has an answer.
            return state == WORKING || isEnd(state);
        }

        // Hash

        long hash() {
            long hash = 4431;
            hash = 31 * hash + dealCount;
            hash = 31 * hash + countOpen();
            hash = 31 * hash + countStuck();
            hash = 31 * hash + questionCount;
            for (int site = 0; site < SITES; site++) {
                hash = hashSite(hash, site);
            }
            for (int deal = 0; deal < dealCount; deal++) {
                hash = hashDeal(hash, deal);
            }
            return hash;
        }

        private long hashSite(long start, int site) {
            long hash = 31 * start + (isAwake(site) ? 1 : 0);
            hash = 31 * hash + itemsHeldBy(site);
            int entries = entriesOf(site);
            hash = 31 * hash + entries;
            for (int index = 0; index < entries; index++) {
                hash = 31 * hash + entryAt(site, index);
            }
            return hash;
        }

        private long hashDeal(long start, int deal) {
            long hash = 31 * start + leaderOf(deal);
            hash = 31 * hash + decisionOf(deal);
            for (int site = 0; site < SITES; site++) {
                hash = 31 * hash + stateOf(deal, site);
                hash = 31 * hash + patienceOf(deal, site);
                hash = 31 * hash + helperFor(deal, site);
            }
            return hash;
        }
    }

    /** The saved states, the oldest one first. Its rows are made once and written over. */
    private static final class History {
        private final Net[] saved = new Net[SAVED_LIMIT];
        private int count = 0;

        History() {
            for (int i = 0; i < SAVED_LIMIT; i++) {
                saved[i] = new Net();
            }
        }

        int size() {
            return count;
        }

        void save(Net net) {
            if (count >= SAVED_LIMIT) {
                discardOldest();
            }
            Net row = saved[count];
            if (row != null) {
                row.copyFrom(net);
                count++;
            }
        }

        private void discardOldest() {
            Net oldest = saved[0];
            for (int i = 1; i < SAVED_LIMIT; i++) {
                saved[i - 1] = saved[i];
            }
            saved[SAVED_LIMIT - 1] = oldest;
            count = SAVED_LIMIT - 1;
        }

        void restore(Net net) {
            if (count <= 0) {
                return;
            }
            count--;
            Net row = saved[count];
            if (row != null) {
                net.copyFrom(row);
            }
        }
    }

    /** The buffer, read one character after the other; a phase tells what may come next. */
    private static final class ActionText {
        private static final int ERROR = 0;
        private static final int KIND = 1;
        private static final int DEAL_ALONE = 2;
        private static final int DEAL_OF_MEMBER = 3;
        private static final int DEAL_OF_ASKER = 4;
        private static final int SITE = 5;
        private static final int ASKER = 6;
        private static final int ASKED = 7;
        private static final int TICKS = 8;
        private static final int AFTER_ONE = 9;
        private static final int AFTER_TWO = 10;
        private static final int ACTION_END = 11;

        private final int[] signs = new int[TEXT_LIMIT];
        private int length = 0;

        int size() {
            return length;
        }

        boolean isFull() {
            return length >= TEXT_LIMIT;
        }

        int add(int sign) {
            if (!isFull()) {
                signs[length] = sign;
                length++;
            }
            return length;
        }

        int clear() {
            int before = length;
            length = 0;
            return before;
        }

        int signAt(int index) {
            return index >= 0 && index < length ? signs[index] : 0;
        }

        int digitAt(int index) {
            return signAt(index) - '0';
        }

        int numberIn(int start, int end) {
            int number = 0;
            for (int index = start; index < end; index++) {
                number = 10 * number + digitAt(index);
            }
            return number;
        }

        boolean isActionEnd(int index) {
            return index == length || signAt(index) == ';';
        }

        int errorIndex() {
            int phase = KIND;
            for (int index = 0; index < length; index++) {
                phase = phaseAfter(phase, signAt(index - 1), signAt(index));
                if (phase == ERROR) {
                    return index;
                }
            }
            return length;
        }

        boolean isComplete() {
            int phase = KIND;
            for (int index = 0; index < length; index++) {
                phase = phaseAfter(phase, signAt(index - 1), signAt(index));
            }
            return phase == ACTION_END || phase == AFTER_ONE || phase == AFTER_TWO;
        }

        private static int phaseAfter(int phase, int before, int sign) {
            switch (phase) {
                case KIND:
                    return phaseAfterKind(sign);
                case DEAL_ALONE:
                    return isIn(sign, '0', '7') ? ACTION_END : ERROR;
                case DEAL_OF_MEMBER:
                    return isIn(sign, '0', '7') ? SITE : ERROR;
                case DEAL_OF_ASKER:
                    return isIn(sign, '0', '7') ? ASKER : ERROR;
                case SITE:
                    return isIn(sign, '0', '5') ? ACTION_END : ERROR;
                case ASKER:
                    return isIn(sign, '0', '5') ? ASKED : ERROR;
                case ASKED:
                    return isIn(sign, '0', '5') && sign != before ? ACTION_END : ERROR;
                case TICKS:
                    return phaseAfterFirstDigit(sign);
                case AFTER_ONE:
                    return isIn(sign, '0', '9') ? ACTION_END : phaseAfterAction(sign);
                case AFTER_TWO:
                    return sign == '0' ? ACTION_END : phaseAfterAction(sign);
                case ACTION_END:
                    return phaseAfterAction(sign);
                default:
                    return ERROR;
            }
        }

        private static int phaseAfterKind(int sign) {
            switch (sign) {
                case 'y':
                case 'n':
                case 'g':
                    return DEAL_OF_MEMBER;
                case 'd':
                    return DEAL_ALONE;
                case 'a':
                    return DEAL_OF_ASKER;
                case 'x':
                case 'u':
                    return SITE;
                case 't':
                    return TICKS;
                default:
                    return ERROR;
            }
        }

        private static int phaseAfterFirstDigit(int sign) {
            if (sign == '1') {
                return AFTER_ONE;
            }
            if (sign == '2') {
                return AFTER_TWO;
            }
            return isIn(sign, '3', '9') ? ACTION_END : ERROR;
        }

        private static int phaseAfterAction(int sign) {
            return sign == ';' ? KIND : ERROR;
        }

        private static boolean isIn(int sign, int least, int most) {
            return sign >= least && sign <= most;
        }
    }
}
