import java.util.ArrayList;
import java.util.List;
import java.util.Random;
import java.util.TreeMap;
import java.util.function.Supplier;

/** Long runs of mixed calls, each answered by the program and by Oracle; the seeds are fixed. */
public final class OracleTest {
    private static final int RUNS = 3000;
    // The document promises nothing about later calls.
    private static final int CALLS = 512;

    private final Random chance;
    private final DealDoubts mine = new DealDoubts();
    private final Oracle due = new Oracle();
    private final int noise;
    private final List<String> told = new ArrayList<>();
    private int calls = 0;
    private static final TreeMap<String, int[]> COUNTS = new TreeMap<>();

    private OracleTest(long seed) {
        chance = new Random(seed);
        noise = (int) (seed % 4) * 4;
    }

    public static void main(String[] args) {
        for (int seed = 0; seed < RUNS; seed++) {
            OracleTest run = new OracleTest(seed);
            if (!run.isAsDue()) {
                Checks.fail("run " + seed + ": " + String.join("\n  ", run.told));
                break;
            }
        }
        dueCounts();
        Checks.end("OracleTest");
    }

    /** Each call of the face must have answered often, and have thrown where it can. */
    private static void dueCounts() {
        for (String call : COUNTS.keySet()) {
            int[] counts = COUNTS.get(call);
            boolean canThrow = !List.of("deals", "open", "stuck", "asked", "doubtShare", "clearText", "firstError",
                "savedStates", "digest").contains(call);
            Checks.due(call + " answered often", counts[0] > 1000, true);
            Checks.due(call + " threw often", counts[1] > 100, canThrow);
        }
        Checks.due("calls of the face", COUNTS.size(), 32);
    }

    private boolean isAsDue() {
        boolean isGood = true;
        // One round takes four calls at most, but for those that append.
        while (isGood && calls <= CALLS - 4) {
            isGood = isSame("digest", "()", mine::digest, due::digest) && (chance.nextInt(3) > 0 ? doOne() : askOne());
        }
        return isGood;
    }

    private boolean isSame(String call, String arguments, Supplier<Object> got, Supplier<Object> want) {
        calls++;
        String answer = answerOf(got);
        String wanted = answerOf(want);
        told.add(call + arguments + " answered " + answer + ", due is " + wanted);
        COUNTS.computeIfAbsent(call, key -> new int[2])[wanted.startsWith("throws.") ? 1 : 0]++;
        return answer.equals(wanted);
    }

    private static String answerOf(Supplier<Object> call) {
        try {
            return String.valueOf(call.get());
        } catch (RuntimeException e) {
            return "throws." + e.getClass().getSimpleName();
        }
    }

    private boolean isNoise() {
        return chance.nextInt(100) < noise;
    }

    private int site() {
        return isNoise() ? List.of(-1, 6, 7, Integer.MIN_VALUE, Integer.MAX_VALUE).get(chance.nextInt(5))
            : chance.nextInt(6);
    }

    private int deal() {
        int deals = due.deals();
        if (isNoise() || deals == 0) {
            return List.of(-1, deals, 8, Integer.MIN_VALUE, Integer.MAX_VALUE).get(chance.nextInt(5));
        }
        return chance.nextInt(deals);
    }

    private int number(int least, int most) {
        return isNoise() ? (chance.nextBoolean() ? least - 1 : most + 1) : least + chance.nextInt(most - least + 1);
    }

    private boolean doOne() {
        int deal = deal();
        int site = site();
        int other = site();
        switch (chance.nextInt(20)) {
            case 0: case 1: return begin(site);
            case 2: case 3: case 4: case 5: return vote(deal, site);
            case 6:
                return isSame("decide", "(" + deal + ")", () -> mine.decide(deal), () -> due.decide(deal));
            case 7: case 8:
                return isSame("tell", "(" + deal + ", " + site + ")", () -> mine.tell(deal, site),
                    () -> due.tell(deal, site));
            case 9: case 10:
                return isSame("ask", "(" + deal + ", " + site + ", " + other + ")", () -> mine.ask(deal, site, other),
                    () -> due.ask(deal, site, other));
            case 11:
                return isSame("fallSilent", "(" + site + ")", () -> mine.fallSilent(site), () -> due.fallSilent(site));
            case 12: case 13:
                return isSame("comeBack", "(" + site + ")", () -> mine.comeBack(site), () -> due.comeBack(site));
            case 14: return pass();
            case 15: return setPatience();
            case 16: return isSame("undo", "()", mine::undo, due::undo);
            default: return chance.nextInt(3) == 0 ? type() : vote(deal, site);
        }
    }

    private boolean begin(int leader) {
        int members = isNoise() ? List.of(0, -1, 1, 32, 64, 67).get(chance.nextInt(6)) : 1 + chance.nextInt(63);
        int item = isNoise() ? number(0, 9) : chance.nextInt(3);
        return isSame("begin", "(" + leader + ", " + members + ", " + item + ")",
            () -> mine.begin(leader, members, item), () -> due.begin(leader, members, item));
    }

    private boolean vote(int deal, int site) {
        boolean isYes = chance.nextInt(6) > 0;
        return isSame("vote", "(" + deal + ", " + site + ", " + isYes + ")", () -> mine.vote(deal, site, isYes),
            () -> due.vote(deal, site, isYes));
    }

    private boolean pass() {
        int ticks = chance.nextInt(3) == 0 ? number(1, 20) : number(1, 3);
        return isSame("pass", "(" + ticks + ")", () -> mine.pass(ticks), () -> due.pass(ticks));
    }

    private boolean setPatience() {
        int patience = chance.nextInt(3) == 0 ? number(1, 20) : number(1, 4);
        return isSame("setPatience", "(" + patience + ")", () -> mine.setPatience(patience),
            () -> due.setPatience(patience));
    }

    /** Appends an action text, mostly a good one, looks for its error, and runs it or not. */
    private boolean type() {
        StringBuilder text = new StringBuilder();
        int actions = 1 + chance.nextInt(chance.nextInt(5) == 0 ? 20 : 4);
        for (int i = 0; i < actions; i++) {
            text.append(i > 0 ? ";" : "").append(action());
        }
        if (chance.nextInt(4) == 0) {
            text.setCharAt(chance.nextInt(text.length()), "yndgaxut;0123456789 ~!:".charAt(chance.nextInt(23)));
        }
        boolean isGood = true;
        for (int i = 0; isGood && i < text.length() && calls < CALLS - 8; i++) {
            int code = text.charAt(i);
            isGood = isSame("append", "(" + code + ")", () -> mine.append(code), () -> due.append(code));
        }
        isGood = isGood && isSame("firstError", "()", mine::firstError, due::firstError)
            && isSame("run", "()", mine::run, due::run);
        return isGood && (chance.nextInt(3) > 0 || isSame("clearText", "()", mine::clearText, due::clearText));
    }

    private String action() {
        int deal = chance.nextInt(Math.max(1, Math.min(8, due.deals() + chance.nextInt(8) / 7)));
        int site = chance.nextInt(6);
        int other = (site + (isNoise() ? 0 : 1 + chance.nextInt(5))) % 6;
        switch (chance.nextInt(9)) {
            case 0: case 1: return "y" + deal + site;
            case 2: return "n" + deal + site;
            case 3: return "d" + deal;
            case 4: return "g" + deal + site;
            case 5: return "a" + deal + site + other;
            case 6: return "x" + site;
            case 7: return "u" + site;
            default: return "t" + number(1, 20);
        }
    }

    private boolean askOne() {
        int deal = deal();
        int site = site();
        String place = "(" + deal + ", " + site + ")";
        String where = "(" + site + ")";
        switch (chance.nextInt(20)) {
            case 0: return isSame("deals", "()", mine::deals, due::deals);
            case 1: return isSame("isUp", where, () -> mine.isUp(site), () -> due.isUp(site));
            case 2: return isSame("state", place, () -> mine.state(deal, site), () -> due.state(deal, site));
            case 3: return isSame("decision", "(" + deal + ")", () -> mine.decision(deal), () -> due.decision(deal));
            case 4: return isSame("leader", "(" + deal + ")", () -> mine.leader(deal), () -> due.leader(deal));
            case 5: return isSame("patience", place, () -> mine.patience(deal, site), () -> due.patience(deal, site));
            case 6: return isSame("open", "()", mine::open, due::open);
            case 7: return isSame("stuck", "()", mine::stuck, due::stuck);
            case 8: return isSame("logLength", where, () -> mine.logLength(site), () -> due.logLength(site));
            case 9: return log(site);
            case 10: return isSame("held", where, () -> mine.held(site), () -> due.held(site));
            case 11: return isSame("asked", "()", mine::asked, due::asked);
            case 12: return isSame("doubtShare", "()", mine::doubtShare, due::doubtShare);
            case 13: return isSame("reason", place, () -> mine.reason(deal, site), () -> due.reason(deal, site));
            case 14: return isSame("helper", place, () -> mine.helper(deal, site), () -> due.helper(deal, site));
            case 15: case 16: return isSame("ticksToEnd", place, () -> mine.ticksToEnd(deal, site),
                () -> due.ticksToEnd(deal, site));
            case 17: return isSame("savedStates", "()", mine::savedStates, due::savedStates);
            case 18: return isSame("firstError", "()", mine::firstError, due::firstError);
            default: return append();
        }
    }

    private boolean log(int site) {
        int index = isNoise() ? -1 : chance.nextInt(25);
        return isSame("log", "(" + site + ", " + index + ")", () -> mine.log(site, index), () -> due.log(site, index));
    }

    private boolean append() {
        int code = number(33, 126);
        return isSame("append", "(" + code + ")", () -> mine.append(code), () -> due.append(code));
    }
}
