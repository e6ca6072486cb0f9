import java.util.function.Supplier;

/**
 * All that an object shows: queries, log, text, saved states, settings, items, and what it does next.
 * Each look is at an object of its own, made in the same way, because some looks change it, and because
 * nothing is promised after 512 calls.
 */
final class Sight {
    private static final String[] ENDINGS = {"", "0", "1", "5", ";t3"};

    private Sight() {
    }

    static String of(Supplier<DealDoubts> maker) {
        StringBuilder seen = new StringBuilder();
        lookAtQueries(maker.get(), seen);
        lookAtPlaces(maker.get(), seen);
        lookAtSavedStates(maker.get(), seen);
        for (int undone = 0; undone <= 6; undone++) {
            lookAtHiddenParts(maker.get(), undone, seen);
        }
        for (String ending : ENDINGS) {
            lookAtText(maker.get(), ending, seen);
        }
        lookAtFuture(maker.get(), seen);
        return seen.toString();
    }

    private static void lookAtQueries(DealDoubts d, StringBuilder seen) {
        seen.append(d.deals()).append(' ').append(d.open()).append(' ').append(d.stuck()).append(' ');
        seen.append(d.asked()).append(' ').append(d.doubtShare()).append(' ').append(d.savedStates()).append(' ');
        seen.append(d.firstError()).append(' ').append(d.digest());
        for (int site = 0; site < 6; site++) {
            seen.append(" site ").append(d.isUp(site)).append(' ').append(d.held(site));
            int length = d.logLength(site);
            for (int index = 0; index <= length; index++) {
                seen.append(' ').append(d.log(site, index));
            }
        }
    }

    private static void lookAtPlaces(DealDoubts d, StringBuilder seen) {
        int deals = d.deals();
        for (int deal = 0; deal < deals; deal++) {
            seen.append(" deal ").append(d.leader(deal)).append(' ').append(d.decision(deal));
            for (int site = 0; site < 6; site++) {
                seen.append(' ').append(d.state(deal, site)).append(' ').append(d.patience(deal, site));
                seen.append(' ').append(d.reason(deal, site)).append(' ').append(d.helper(deal, site));
                seen.append(' ').append(d.ticksToEnd(deal, site));
            }
        }
    }

    private static void lookAtSavedStates(DealDoubts d, StringBuilder seen) {
        for (int left = d.savedStates(); left > 0; left--) {
            seen.append(" undo ").append(d.undo()).append(' ').append(d.digest());
        }
        seen.append(answer(d::undo));
    }

    /** No query tells the patience of the settings, and the items of deals about which nobody is in doubt. */
    private static void lookAtHiddenParts(DealDoubts d, int undone, StringBuilder seen) {
        for (int i = 0; i < undone; i++) {
            seen.append(answer(d::undo));
        }
        seen.append(" settings ").append(d.setPatience(1));
        int deals = d.deals();
        for (int deal = 0; deal < deals; deal++) {
            for (int site = 0; site < 6; site++) {
                int member = site;
                int voted = deal;
                seen.append(answer(() -> d.vote(voted, member, true)));
            }
        }
        for (int site = 0; site < 6; site++) {
            seen.append(' ').append(d.held(site));
        }
    }

    private static void lookAtText(DealDoubts d, String ending, StringBuilder seen) {
        for (char sign : ending.toCharArray()) {
            seen.append(answer(() -> d.append(sign)));
        }
        seen.append(" error ").append(d.firstError()).append(answer(d::run)).append(' ').append(d.digest());
        seen.append(' ').append(d.savedStates()).append(' ').append(d.clearText());
    }

    private static void lookAtFuture(DealDoubts d, StringBuilder seen) {
        seen.append(" future ").append(d.pass(20)).append(' ').append(d.digest());
        for (int site = 0; site < 6; site++) {
            int sleeper = site;
            seen.append(answer(() -> d.comeBack(sleeper)));
        }
        seen.append(' ').append(d.digest()).append(' ').append(d.pass(20)).append(' ').append(d.digest());
    }

    private static String answer(Supplier<Integer> call) {
        try {
            return " " + call.get();
        } catch (RuntimeException e) {
            return " throws." + e.getClass().getSimpleName();
        }
    }
}
