/** Promises 27 to 30: append, clearText, firstError, run. */
final class BoundaryOfText extends Bounds {
    private static final String DEALS = "01234567";
    private static final String SITES = "012345";
    private static final String KINDS = "yndgaxut";

    private BoundaryOfText() {
    }

    static void all() {
        append();
        appendExceptions();
        clearText();
        firstError();
        votesAndDecisions();
        questionsAndSites();
        ticks();
        texts();
        runCounts();
        runStops();
        runIsOneCall();
        runRefusals();
    }

    private static DealDoubts typed(String text) {
        return type(new DealDoubts(), text);
    }

    private static DealDoubts type(DealDoubts d, String text) {
        Checks.append(d, text);
        return d;
    }

    private static int runOf(DealDoubts d, String text) {
        Checks.append(d, text);
        return d.run();
    }

    private static void append() {
        holds(27, "`code`: a character code, 33 to 126", () -> {
            for (int code = 33; code <= 126; code++) {
                int there = code;
                answers("append(" + code + ")", EMPTY, d -> d.append(there), 1);
            }
            refused("append(32)", ARGUMENT, EMPTY, d -> d.append(32));
            refused("append(127)", ARGUMENT, EMPTY, d -> d.append(127));
        });
        holds(27, "Returns the new length of the buffer.", () -> {
            DealDoubts d = new DealDoubts();
            for (int length = 1; length <= 60; length++) {
                due("append", d.append(length % 2 == 0 ? 33 : 126), length);
            }
            d.clearText();
            due("append after clearText()", d.append('x'), 1);
            d.append('0');
            d.run();
            due("append after run()", d.append('x'), 1);
        });
        holds(27, "Throws `IllegalArgumentException` if code is out of range", () -> {
            for (int code : new int[] {32, 127, 0, -1, 31, 128, 255, 256 + 'y', 65536 + 'y', -'y', LEAST, MOST}) {
                refused("append(" + code + ")", ARGUMENT, EMPTY, d -> d.append(code));
                refused("append(" + code + ")", ARGUMENT, RICH, d -> d.append(code));
            }
        });
        holds(27, "Throws `IllegalStateException` if the buffer contains 60 characters", () -> {
            answers("the 60th character", () -> typed("x".repeat(59)), d -> d.append('x'), 60);
            refused("the 61st character", STATE, () -> typed("x".repeat(60)), d -> d.append('x'));
            refused("the 61st character", STATE, FULL, d -> d.append(';'));
            refused("the 61st character", STATE, FULL, d -> d.append(33));
            refused("the 61st character", STATE, FULL, d -> d.append(126));
            answers("after clearText()", FULL, d -> last(d.clearText(), d.append('x')), 1);
            answers("after run()", FULL, d -> last(d.run(), d.append('x')), 1);
        });
    }

    private static void appendExceptions() {
        holds(27, "The buffer contains at most 60 characters and is empty at first.", () -> {
            answers("a new object", EMPTY, DealDoubts::clearText, 0);
            answers("a full buffer", FULL, DealDoubts::clearText, 60);
            answers("firstError() of a full buffer", FULL, DealDoubts::firstError, 60);
        });
        holds(27, "If more than one exception applies to a call, the one that is listed first", () -> {
            for (int code : new int[] {32, 127, LEAST, MOST}) {
                refused("append(" + code + ") to a full buffer", ARGUMENT, FULL, d -> d.append(code));
            }
        });
        holds(27, "A call that throws an exception changes nothing.", () -> {
            refused("append(32)", ARGUMENT, RICH, d -> d.append(32));
            refused("append(127)", ARGUMENT, FULL, d -> d.append(127));
            refused("append of the 61st character", STATE, FULL, d -> d.append('0'));
        });
        holds(27, "Each method that is marked \"Undoable\" saves the state", () ->
            answers("savedStates() after append", EMPTY, d -> last(d.append('x'), d.savedStates()), 0));
    }

    private static void clearText() {
        holds(28, "Returns the length that it had.", () -> {
            for (int length = 0; length <= 60; length++) {
                int there = length;
                answers("clearText() of " + length, () -> typed("!".repeat(there)), DealDoubts::clearText, length);
            }
            answers("clearText() twice", FULL, d -> last(d.clearText(), d.clearText()), 0);
        });
        holds(28, "Empties the buffer.", () -> {
            answers("firstError()", FULL, d -> last(d.clearText(), d.firstError()), 0);
            dueThrown("run()", ARGUMENT, FULL, d -> last(d.clearText(), d.run()));
            answers("the next text", () -> typed("y00;"), d -> last(d.clearText(), runOf(d, "x0")), 1);
            changesNothing("clearText() of an empty buffer", EMPTY, DealDoubts::clearText);
        });
        holds(28, "Each method that is marked \"Undoable\" saves the state", () ->
            answers("savedStates()", () -> typed("x0"), d -> last(d.clearText(), d.savedStates()), 0));
    }

    /** Which characters may follow, of all that can be appended. */
    private static void follow(String before, String allowed) {
        for (char sign = 33; sign <= 126; sign++) {
            int due = before.length() + (allowed.indexOf(sign) >= 0 ? 1 : 0);
            String text = before + sign;
            answers("firstError() of " + text, () -> typed(text), DealDoubts::firstError, due);
        }
    }

    private static void dueError(String text, int want) {
        answers("firstError() of " + text, () -> typed(text), DealDoubts::firstError, want);
    }

    private static void firstError() {
        holds(29, "Returns the index of the first character that is an error", () -> {
            dueError("!", 0);
            dueError("y!!", 1);
            dueError("y0!!", 2);
            dueError("y00!", 3);
            dueError("y00;!", 4);
            dueError("x0;".repeat(19) + "x0!", 59);
            dueError("x0;".repeat(19) + "x!0", 58);
            dueError("!" + "x0;".repeat(19) + "x0", 0);
        });
        holds(29, "the length of the buffer if there is none (also if the buffer is not a complete", () -> {
            String text = Worlds.LONG_TEXT;
            for (int length = 0; length <= 60; length++) {
                dueError(text.substring(0, length), length);
            }
        });
        holds(29, "Finds the first error of the buffer.", () -> {
            changesNothing("firstError()", EMPTY, DealDoubts::firstError);
            changesNothing("firstError()", RICH, DealDoubts::firstError);
            changesNothing("firstError()", FULL, DealDoubts::firstError);
            changesNothing("firstError()", () -> typed("y00!"), DealDoubts::firstError);
        });
    }

    private static void votesAndDecisions() {
        holds(29, "\"y\" or \"n\", a deal, and a site", () -> {
            for (String kind : new String[] {"y", "n"}) {
                follow(kind, DEALS);
                follow(kind + "0", SITES);
                follow(kind + "7", SITES);
                follow(kind + "00", ";");
                follow(kind + "75", ";");
            }
        });
        holds(30, "the member votes yes or no", () -> {
            for (int place = 0; place < 48; place++) {
                int deal = place / 6;
                int site = place % 6;
                answers("y" + deal + site, () -> Worlds.working(8),
                    d -> inRow(runOf(d, "y" + deal + site), d.state(deal, site)), 11);
                answers("n" + deal + site, () -> Worlds.working(8),
                    d -> inRow(runOf(d, "n" + deal + site), d.state(deal, site)), 13);
            }
        });
        holds(29, "\"d\" and a deal", () -> {
            follow("d", DEALS);
            follow("d0", ";");
            follow("d7", ";");
        });
        holds(30, "\"d\" and a deal: like decide()", () -> {
            for (int place = 0; place < 8; place++) {
                int deal = place;
                answers("d" + deal, () -> Worlds.working(8), d -> inRow(runOf(d, "d" + deal), d.decision(deal)), 13);
            }
        });
        holds(29, "\"g\", a deal, and a site", () -> {
            follow("g", DEALS);
            follow("g0", SITES);
            follow("g7", SITES);
            follow("g00", ";");
            follow("g75", ";");
        });
        holds(30, "\"g\", a deal, and a site: like tell()", () -> {
            for (int place = 0; place < 48; place++) {
                int deal = place / 6;
                int site = place % 6;
                answers("g" + deal + site, () -> Worlds.decided(8),
                    d -> inRow(runOf(d, "g" + deal + site), d.state(deal, site)), 13);
            }
        });
    }

    private static void questionsAndSites() {
        holds(29, "\"a\", a deal, a site, and another site (with another digit)", () -> {
            follow("a", DEALS);
            follow("a0", SITES);
            follow("a7", SITES);
            for (int site = 0; site < 6; site++) {
                follow("a0" + site, SITES.replace("" + site, ""));
                follow("a" + site + site, SITES.replace("" + site, ""));
                follow("a7" + site, SITES.replace("" + site, ""));
            }
            follow("a001", ";");
            follow("a754", ";");
        });
        holds(30, "\"a\", a deal, a site, and another site (with another digit): like ask()", () -> {
            for (int place = 0; place < 36; place++) {
                int site = place / 6;
                int other = place % 6;
                if (site != other) {
                    answers("a7" + site + other, () -> Worlds.working(8),
                        d -> inRow(d.vote(7, site, true), runOf(d, "a7" + site + other), d.state(7, site), d.asked()),
                        1131);
                }
            }
            answers("a005", () -> Worlds.deal(5, 3, 1),
                d -> inRow(runOf(d, "a005"), d.state(0, 0), d.asked()), 131);
        });
        holds(29, "\"x\" and a site: like fallSilent(); \"u\" and a site: like comeBack()", () -> {
            for (String kind : new String[] {"x", "u"}) {
                follow(kind, SITES);
                follow(kind + "0", ";");
                follow(kind + "5", ";");
            }
        });
        holds(30, "\"x\" and a site: like fallSilent(); \"u\" and a site: like comeBack()", () -> {
            for (int site = 0; site < 6; site++) {
                DealDoubts d = Worlds.working(1);
                due("x" + site, runOf(d, "x" + site), 1);
                due("isUp(" + site + ")", d.isUp(site), false);
                due("u" + site, runOf(d, "u" + site), 1);
                due("isUp(" + site + ")", d.isUp(site), true);
                due("state(0, " + site + ")", d.state(0, site), 3);
            }
        });
        holds(29, "A deal is a digit from 0 to 7, a site is a digit from 0 to 5.", () -> {
            dueError("d0", 2);
            dueError("d7", 2);
            dueError("d8", 1);
            dueError("d/", 1);
            dueError("x0", 2);
            dueError("x5", 2);
            dueError("x6", 1);
            dueError("x/", 1);
            dueError("y76", 2);
            dueError("y85", 1);
        });
    }

    private static void ticks() {
        holds(29, "\"t\" and a number from 1 to 20, without leading zeros", () -> {
            follow("t", "123456789");
            follow("t1", "0123456789;");
            follow("t2", "0;");
            for (int number = 3; number <= 20; number++) {
                follow("t" + number, ";");
            }
            dueError("t0", 1);
            dueError("t01", 1);
            dueError("t21", 2);
        });
        holds(30, "\"t\" and a number from 1 to 20, without leading zeros: like pass()", () -> {
            for (int ticks = 1; ticks <= 20; ticks++) {
                // Two members ask four sites each in the tick 20, and not before.
                DealDoubts d = new DealDoubts();
                d.setPatience(20);
                d.begin(5, 3, 0);
                d.vote(0, 0, true);
                d.vote(0, 1, true);
                d.fallSilent(5);
                due("t" + ticks, runOf(d, "t" + ticks), 1);
                due("patience after t" + ticks, d.patience(0, 0), ticks < 20 ? 20 - ticks : 20);
                due("asked() after t" + ticks, d.asked(), ticks < 20 ? 0 : 8);
            }
            for (String text : new String[] {"t", "t0", "t01", "t21", "t100", "t1;t"}) {
                refused("run() of " + text, ARGUMENT, () -> typed(text), DealDoubts::run);
            }
        });
    }

    private static void texts() {
        holds(29, "An action text is one or more actions with \";\" between them:", () -> {
            follow("", KINDS);
            follow("d0;", KINDS);
            follow("t20;", KINDS);
            follow("x0;u0;", KINDS);
        });
        holds(30, "An action text is one or more actions with \";\" between them:", () -> {
            answers("one action", EMPTY, d -> runOf(d, "x0"), 1);
            answers("twenty actions", EMPTY, d -> runOf(d, Worlds.LONG_TEXT), 20);
            for (String text : new String[] {"", ";", "x0;", ";x0", "x0;;u0", "x0u0", "x0,u0"}) {
                refused("run() of " + text, ARGUMENT, () -> typed(text), DealDoubts::run);
            }
        });
        holds(29, "A character of the buffer is an error if no action text, however long, begins with", () -> {
            String almostFull = "x0;".repeat(19);
            dueError(almostFull + "x0;", 60);
            dueError(almostFull + "x0y", 59);
            dueError(almostFull + "x5", 59);
            dueError(almostFull + "a70", 60);
            dueError(almostFull + "t10", 60);
            dueError(almostFull + "t1", 59);
            dueError(almostFull + "y75", 60);
            dueError(almostFull + "d7;", 60);
        });
    }

    private static void runCounts() {
        holds(30, "Returns the number of actions that are done.", () -> {
            answers("none of one", EMPTY, d -> runOf(d, "u0"), 0);
            answers("none of twenty", () -> Worlds.silent(new DealDoubts(), 0), d -> runOf(d, Worlds.LONG_TEXT), 0);
            answers("one of one", EMPTY, d -> runOf(d, "t1"), 1);
            answers("one of two", EMPTY, d -> runOf(d, "t1;u0"), 1);
            answers("twenty of twenty", EMPTY, d -> runOf(d, Worlds.LONG_TEXT), 20);
            answers("nineteen of twenty", EMPTY, d -> runOf(d, "x0;u0;".repeat(9) + "x0;x0"), 19);
            answers("an action that changes nothing", EMPTY, d -> runOf(d, "t20"), 1);
            answers("a question that changes nothing", () -> Worlds.deal(5, 3, 3), d -> runOf(d, "a001;a004;a010"), 3);
        });
        holds(30, "and empties the buffer", () -> {
            answers("all are done", FULL, d -> last(d.run(), d.clearText()), 0);
            answers("some are done", EMPTY, d -> last(runOf(d, "x0;x0;u0"), d.clearText()), 0);
            answers("none is done", EMPTY, d -> last(runOf(d, "u0"), d.clearText()), 0);
            dueThrown("run() again", ARGUMENT, FULL, d -> last(d.run(), d.run()));
        });
    }

    private static void runStops() {
        holds(30, "up to the first one whose method would throw an exception", () -> {
            for (String text : new String[] {"y00", "n75", "d0", "d7", "g00", "a001", "u0"}) {
                stops("without deals, ", EMPTY, text);
            }
            for (String text : new String[] {"y03", "n05", "y14", "n14", "y00", "n01", "y12", "y23"}) {
                stops("no vote, ", RICH, text);
            }
            for (String text : new String[] {"d2", "d3", "d4", "d7", "g00", "g30", "g24", "g25", "g03", "g14", "g40"}) {
                stops("nothing to decide or to tell, ", RICH, text);
            }
            for (String text : new String[] {"a030", "a020", "a242", "a134", "a004", "a050", "a120", "a232", "a401"}) {
                stops("no question, ", RICH, text);
            }
            for (String text : new String[] {"x4", "u0", "u5"}) {
                stops("silent or up already, ", RICH, text);
            }
        });
        holds(30, "Does the actions in the buffer, one after the other", () -> {
            DealDoubts d = Worlds.working(1);
            due("run()", runOf(d, "y00;n01;d0;g00;y02;a023;x5"), 7);
            dueLog("yes, and told", d, 0, 1, 3);
            dueLog("no", d, 1, 3);
            dueLog("yes, and asked", d, 2, 1, 3);
            dueLog("the leader", d, 5, 6);
            due("isUp(5)", d.isUp(5), false);
            answers("what makes the next one possible", EMPTY, e -> runOf(e, "x0;u0;x0"), 3);
        });
    }

    /** Before it one action is done, and those behind it are not. */
    private static void stops(String told, World world, String text) {
        World bare = () -> {
            DealDoubts d = world.make();
            d.clearText();
            return d;
        };
        answers(told + text, bare, d -> runOf(d, text), 0);
        answers(told + "t1;" + text, bare, d -> runOf(d, "t1;" + text), 1);
        answers(told + text + ";x3", bare, d -> inRow(runOf(d, text + ";x3"), d.isUp(3) ? 1 : 0), 1);
        long due = bare.make().digest();
        answers(told + text + ", digest()", bare, d -> last(runOf(d, text + ";x3"), d.digest()), due);
    }

    private static void runIsOneCall() {
        holds(30, "Undoable, as one call, also if no action is done.", () -> {
            undoable("no action", EMPTY, d -> runOf(d, "u0"));
            undoable("one action", EMPTY, d -> runOf(d, "x0"));
            undoable("twenty actions", EMPTY, d -> runOf(d, Worlds.LONG_TEXT));
            undoable("five actions, and one that would throw", () -> Worlds.working(2),
                d -> runOf(d, "y00;y01;d0;g00;t20;d0;x0"));
            DealDoubts d = Worlds.working(5);
            long before = d.digest();
            due("run()", runOf(d, "y40;y41;y42;y43;y44;y45;d4;g40;t3;x0"), 10);
            due("savedStates()", d.savedStates(), 6);
            due("undo()", d.undo(), 5);
            due("digest()", d.digest(), before);
            due("undo() of the begin before", d.undo(), 4);
            due("deals()", d.deals(), 4);
        });
        holds(30, "At most 6 states are saved", () -> {
            answers("savedStates()", FULL, d -> last(d.run(), d.savedStates()), 6);
            answers("no action is done", FULL, d -> last(d.clearText(), runOf(d, "u0"), d.savedStates()), 6);
        });
    }

    private static void runRefusals() {
        holds(30, "if the buffer is not a complete action text (the buffer stays)", () -> {
            refused("run() of an empty buffer", ARGUMENT, EMPTY, DealDoubts::run);
            refused("run() of an unfinished text", ARGUMENT, RICH, DealDoubts::run);
            String[] texts = {"y", "y0", "d", "g", "g0", "a", "a0", "a00", "x", "u", "t", "x0;", "x0;y", "x0;t", "t21",
                "t0", "y80", "y06", "d8", "a011", "x6", "u6", "!", "x0!", "x00", "x0;u0;y06", "x0;".repeat(20)};
            for (String text : texts) {
                refused("run() of " + text, ARGUMENT, () -> typed(text), DealDoubts::run);
                answers("the buffer stays, " + text, () -> typed(text), d -> {
                    try {
                        return -d.run();
                    } catch (IllegalArgumentException e) {
                        return d.clearText();
                    }
                }, text.length());
            }
        });
        holds(30, "A call that throws an exception changes nothing.", () -> {
            refused("run() in a rich world", ARGUMENT, RICH, DealDoubts::run);
            refused("run() of good actions and a bad one", ARGUMENT, () -> type(Worlds.working(8), "y00;y01;d0;x"),
                DealDoubts::run);
            refused("run() of a full buffer", ARGUMENT, () -> typed("x0;".repeat(19) + "x0;"), DealDoubts::run);
        });
    }
}
