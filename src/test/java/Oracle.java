import java.util.ArrayDeque;
import java.util.ArrayList;
import java.util.Deque;
import java.util.List;
import java.util.Map;
import java.util.TreeMap;
import java.util.regex.Matcher;
import java.util.regex.Pattern;

/**
 * A second program for the same document, written in another way, to compare the first one with.
 * It makes a new copy of the state for each call that may be undone and for each forecast.
 */
final class Oracle {
    private static final Pattern TEXT = Pattern.compile(pattern());

    private World world = new World();
    private final Deque<World> saved = new ArrayDeque<>();
    private String buffer = "";

    private static String pattern() {
        StringBuilder asks = new StringBuilder();
        for (int site = 0; site < 6; site++) {
            asks.append("|a[0-7]").append(site).append('[').append("012345".replace("" + site, "")).append(']');
        }
        String action = "(?:[yng][0-7][0-5]|d[0-7]|[xu][0-5]|t(?:1[0-9]?|20?|[3-9])" + asks + ")";
        return action + "(?:;" + action + ")*";
    }

    private static final class Member {
        int state = 0;
        int patience = 0;

        Member copy() {
            Member copy = new Member();
            copy.state = state;
            copy.patience = patience;
            return copy;
        }
    }

    private static final class Deal {
        int leader;
        int item;
        int decision = 0;
        final TreeMap<Integer, Member> members = new TreeMap<>();

        Deal copy() {
            Deal copy = new Deal();
            copy.leader = leader;
            copy.item = item;
            copy.decision = decision;
            for (Map.Entry<Integer, Member> entry : members.entrySet()) {
                copy.members.put(entry.getKey(), entry.getValue().copy());
            }
            return copy;
        }

        int stateOf(int site) {
            return members.containsKey(site) ? members.get(site).state : -1;
        }
    }

    private static final class World {
        final List<Deal> deals = new ArrayList<>();
        final boolean[] silent = new boolean[6];
        final List<List<Integer>> logs = new ArrayList<>();
        int asked = 0;
        int patience = 3;

        World() {
            for (int site = 0; site < 6; site++) {
                logs.add(new ArrayList<>());
            }
        }

        World copy() {
            World copy = new World();
            for (Deal deal : deals) {
                copy.deals.add(deal.copy());
            }
            for (int site = 0; site < 6; site++) {
                copy.silent[site] = silent[site];
                copy.logs.get(site).addAll(logs.get(site));
            }
            copy.asked = asked;
            copy.patience = patience;
            return copy;
        }

        void become(int number, int site, int state) {
            Member member = deals.get(number).members.get(site);
            member.state = state;
            if (state == 1) {
                member.patience = patience;
            }
            logs.get(site).add(10 * number + state);
        }

        void decideOn(int number, int decision) {
            Deal deal = deals.get(number);
            deal.decision = decision;
            logs.get(deal.leader).add(10 * number + (decision == 2 ? 5 : 6));
        }

        boolean holds(int site, int item, int exceptFor) {
            for (int number = 0; number < deals.size(); number++) {
                Deal deal = deals.get(number);
                if (number != exceptFor && deal.item == item && deal.stateOf(site) == 1) {
                    return true;
                }
            }
            return false;
        }

        void question(int number, int site, int other) {
            asked++;
            Deal deal = deals.get(number);
            if (deal.leader == other) {
                if (deal.decision == 0) {
                    decideOn(number, 3);
                }
                become(number, site, deal.decision);
                return;
            }
            int state = deal.stateOf(other);
            if (state == 0) {
                become(number, other, 3);
                become(number, site, 3);
            } else if (state >= 2) {
                become(number, site, state);
            }
        }

        void tick() {
            for (int number = 0; number < deals.size(); number++) {
                for (Map.Entry<Integer, Member> entry : deals.get(number).members.entrySet()) {
                    int site = entry.getKey();
                    Member member = entry.getValue();
                    if (!silent[site] && member.state == 1) {
                        member.patience--;
                        if (member.patience == 0) {
                            askAll(number, site, member);
                            member.patience = patience;
                        }
                    }
                }
            }
        }

        void askAll(int number, int site, Member member) {
            for (int other = 0; other < 6 && member.state == 1; other++) {
                if (other != site && !silent[other]) {
                    question(number, site, other);
                }
            }
        }

        int ended() {
            int ended = 0;
            for (Deal deal : deals) {
                for (Member member : deal.members.values()) {
                    ended += member.state >= 2 ? 1 : 0;
                }
            }
            return ended;
        }
    }

    private void save() {
        saved.addLast(world.copy());
        if (saved.size() > 6) {
            saved.removeFirst();
        }
    }

    private Deal dealOf(int deal) {
        if (deal < 0 || deal >= world.deals.size()) {
            throw new IndexOutOfBoundsException();
        }
        return world.deals.get(deal);
    }

    private static void siteOf(int site) {
        if (site < 0 || site > 5) {
            throw new IndexOutOfBoundsException();
        }
    }

    private static void argument(boolean isGood) {
        if (!isGood) {
            throw new IllegalArgumentException();
        }
    }

    private static void allowed(boolean isGood) {
        if (!isGood) {
            throw new IllegalStateException();
        }
    }

    int begin(int leader, int members, int item) {
        siteOf(leader);
        argument(members >= 1 && members <= 63 && (members & members - 1) != 0 && item >= 0 && item <= 9);
        allowed(world.deals.size() < 8 && !world.silent[leader]);
        Deal deal = new Deal();
        for (int site = 0; site < 6; site++) {
            if ((members & 1 << site) != 0) {
                allowed(!world.silent[site]);
                deal.members.put(site, new Member());
            }
        }
        save();
        deal.leader = leader;
        deal.item = item;
        world.deals.add(deal);
        return world.deals.size() - 1;
    }

    int vote(int deal, int site, boolean isYes) {
        Deal it = dealOf(deal);
        siteOf(site);
        allowed(it.stateOf(site) == 0 && !world.silent[site]);
        save();
        world.become(deal, site, isYes && !world.holds(site, it.item, deal) ? 1 : 3);
        return it.stateOf(site);
    }

    int decide(int deal) {
        Deal it = dealOf(deal);
        allowed(!world.silent[it.leader] && it.decision == 0);
        save();
        boolean areAll = true;
        for (Member member : it.members.values()) {
            areAll &= member.state == 1;
        }
        world.decideOn(deal, areAll ? 2 : 3);
        return it.decision;
    }

    int tell(int deal, int site) {
        Deal it = dealOf(deal);
        siteOf(site);
        allowed(it.members.containsKey(site) && !world.silent[it.leader] && !world.silent[site] && it.decision != 0);
        save();
        int state = it.stateOf(site);
        if (state == 1) {
            world.become(deal, site, it.decision);
        } else if (state == 0 && it.decision == 3) {
            world.become(deal, site, 3);
        }
        return it.stateOf(site);
    }

    int ask(int deal, int site, int other) {
        Deal it = dealOf(deal);
        siteOf(site);
        siteOf(other);
        argument(site != other);
        allowed(it.stateOf(site) == 1 && !world.silent[site] && !world.silent[other]);
        save();
        world.question(deal, site, other);
        return it.stateOf(site);
    }

    int fallSilent(int site) {
        siteOf(site);
        allowed(!world.silent[site]);
        save();
        world.silent[site] = true;
        int doubts = 0;
        for (Deal deal : world.deals) {
            doubts += deal.stateOf(site) == 1 ? 1 : 0;
        }
        return doubts;
    }

    int comeBack(int site) {
        siteOf(site);
        allowed(world.silent[site]);
        save();
        int before = world.logs.get(site).size();
        world.silent[site] = false;
        for (int number = 0; number < world.deals.size(); number++) {
            Deal deal = world.deals.get(number);
            if (deal.stateOf(site) == 0) {
                world.become(number, site, 3);
            }
            if (deal.leader == site && deal.decision == 0) {
                world.decideOn(number, 3);
            }
        }
        return world.logs.get(site).size() - before;
    }

    int pass(int ticks) {
        argument(ticks >= 1 && ticks <= 20);
        save();
        int before = world.ended();
        for (int tick = 0; tick < ticks; tick++) {
            world.tick();
        }
        return world.ended() - before;
    }

    int setPatience(int patience) {
        argument(patience >= 1 && patience <= 20);
        save();
        int previous = world.patience;
        world.patience = patience;
        return previous;
    }

    int deals() {
        return world.deals.size();
    }

    boolean isUp(int site) {
        siteOf(site);
        return !world.silent[site];
    }

    int state(int deal, int site) {
        dealOf(deal);
        siteOf(site);
        return dealOf(deal).stateOf(site);
    }

    int decision(int deal) {
        return dealOf(deal).decision;
    }

    int leader(int deal) {
        return dealOf(deal).leader;
    }

    int patience(int deal, int site) {
        return state(deal, site) == 1 ? dealOf(deal).members.get(site).patience : -1;
    }

    int open() {
        int open = 0;
        for (Deal deal : world.deals) {
            open += deal.members.values().stream().anyMatch(member -> member.state < 2) ? 1 : 0;
        }
        return open;
    }

    int stuck() {
        int stuck = 0;
        for (int deal = 0; deal < deals(); deal++) {
            boolean isDoubt = false;
            boolean isHelp = false;
            for (int site = 0; site < 6; site++) {
                isDoubt |= isUp(site) && state(deal, site) == 1;
                isHelp |= helper(deal, site) != -1;
            }
            stuck += isDoubt && !isHelp ? 1 : 0;
        }
        return stuck;
    }

    int logLength(int site) {
        siteOf(site);
        return world.logs.get(site).size();
    }

    int log(int site, int index) {
        siteOf(site);
        if (index < 0) {
            throw new IndexOutOfBoundsException();
        }
        return index < logLength(site) ? world.logs.get(site).get(index) : -1;
    }

    int held(int site) {
        siteOf(site);
        int mask = 0;
        for (int item = 0; item < 10; item++) {
            mask |= world.holds(site, item, -1) ? 1 << item : 0;
        }
        return mask;
    }

    int asked() {
        return world.asked;
    }

    double doubtShare() {
        double doubt = 0;
        double all = 0;
        for (Deal deal : world.deals) {
            all += deal.members.size();
            doubt += deal.members.values().stream().filter(member -> member.state == 1).count();
        }
        return all == 0 ? 0.0 : doubt / all;
    }

    int reason(int deal, int site) {
        int state = state(deal, site);
        if (state == -1) {
            return 1;
        }
        if (world.silent[site]) {
            return 2;
        }
        if (state != 0) {
            return 3;
        }
        return world.holds(site, dealOf(deal).item, deal) ? 4 : 0;
    }

    /** Really asks, in a copy. */
    int helper(int deal, int site) {
        if (state(deal, site) != 1 || world.silent[site]) {
            return -1;
        }
        for (int other = 0; other < 6; other++) {
            if (other != site && !world.silent[other]) {
                World copy = world.copy();
                copy.question(deal, site, other);
                if (copy.deals.get(deal).stateOf(site) != 1) {
                    return other;
                }
            }
        }
        return -1;
    }

    int ticksToEnd(int deal, int site) {
        int state = state(deal, site);
        if (state == -1) {
            return -1;
        }
        World copy = world.copy();
        int ticks = 0;
        while (ticks < 40 && copy.deals.get(deal).stateOf(site) < 2) {
            copy.tick();
            ticks++;
        }
        return copy.deals.get(deal).stateOf(site) >= 2 ? ticks : -1;
    }

    int append(int code) {
        argument(code >= 33 && code <= 126);
        allowed(buffer.length() < 60);
        buffer += (char) code;
        return buffer.length();
    }

    int clearText() {
        int length = buffer.length();
        buffer = "";
        return length;
    }

    int firstError() {
        for (int length = 1; length <= buffer.length(); length++) {
            Matcher matcher = TEXT.matcher(buffer.substring(0, length));
            if (!matcher.matches() && !matcher.hitEnd()) {
                return length - 1;
            }
        }
        return buffer.length();
    }

    int run() {
        argument(TEXT.matcher(buffer).matches());
        Deque<World> savedBefore = new ArrayDeque<>(saved);
        World before = world.copy();
        int done = 0;
        try {
            for (String action : buffer.split(";")) {
                act(action);
                done++;
            }
        } catch (IndexOutOfBoundsException | IllegalArgumentException | IllegalStateException e) {
            // The first action that throws is the end of the run.
        }
        saved.clear();
        saved.addAll(savedBefore);
        saved.addLast(before);
        if (saved.size() > 6) {
            saved.removeFirst();
        }
        buffer = "";
        return done;
    }

    private void act(String action) {
        int[] digits = action.substring(1).chars().map(sign -> sign - '0').toArray();
        switch (action.charAt(0)) {
            case 'y' -> vote(digits[0], digits[1], true);
            case 'n' -> vote(digits[0], digits[1], false);
            case 'd' -> decide(digits[0]);
            case 'g' -> tell(digits[0], digits[1]);
            case 'a' -> ask(digits[0], digits[1], digits[2]);
            case 'x' -> fallSilent(digits[0]);
            case 'u' -> comeBack(digits[0]);
            default -> pass(Integer.parseInt(action.substring(1)));
        }
    }

    int undo() {
        allowed(!saved.isEmpty());
        world = saved.removeLast();
        return saved.size();
    }

    int savedStates() {
        return saved.size();
    }

    long digest() {
        List<Integer> values = new ArrayList<>(List.of(deals(), open(), stuck(), asked()));
        for (int site = 0; site < 6; site++) {
            values.add(isUp(site) ? 1 : 0);
            values.add(held(site));
            values.add(logLength(site));
            values.addAll(world.logs.get(site));
        }
        for (int deal = 0; deal < deals(); deal++) {
            values.add(leader(deal));
            values.add(decision(deal));
            for (int site = 0; site < 6; site++) {
                values.addAll(List.of(state(deal, site), patience(deal, site), helper(deal, site)));
            }
        }
        long hash = 4431;
        for (int value : values) {
            hash = 31 * hash + value;
        }
        return hash;
    }
}
