/** Promises 27 to 30: append, clearText, firstError, run. */
public final class ActionTextTest {
    private static final String KINDS = "yndgaxut";

    private ActionTextTest() {
    }

    public static void main(String[] args) {
        promise27Append();
        promise27AppendRefusals();
        promise28ClearText();
        promise29Kinds();
        promise29DealsAndSites();
        promise29AnotherSite();
        promise29Ticks();
        promise29Texts();
        promise30EachKind();
        promise30Ticks();
        promise30StopsAtTheFirst();
        promise30StopsWhereMethodsThrow();
        promise30IsOneCall();
        promise30Refusals();
        promise30LongText();
        promise30ShortActionAtTheLimit();
        Checks.end("ActionTextTest");
    }

    private static void promise27Append() {
        DealDoubts d = new DealDoubts();
        Checks.due("27: the least code", d.append(33), 1);
        Checks.due("27: the greatest code", d.append(126), 2);
        Checks.due("27: savedStates()", d.savedStates(), 0);
        Checks.due("27: a code that is an error", d.append('Z'), 3);
        for (int length = 4; length <= 60; length++) {
            Checks.due("27: up to 60", d.append('y'), length);
        }
        Checks.refused("27: a full buffer", d, Checks.STATE, () -> d.append('y'));
        Checks.refused("27: a full buffer and a bad code", d, Checks.ARGUMENT, () -> d.append(32));
        Checks.due("27: 60 characters", d.clearText(), 60);
        Checks.due("27: anew", d.append('y'), 1);
    }

    private static void promise27AppendRefusals() {
        DealDoubts d = new DealDoubts();
        for (int code : new int[] {32, 127, 0, -1, 256 + 'y', Integer.MIN_VALUE, Integer.MAX_VALUE}) {
            Checks.refused("27: code " + code, d, Checks.ARGUMENT, () -> d.append(code));
        }
        Checks.due("27: nothing was appended", d.clearText(), 0);
    }

    private static void promise28ClearText() {
        DealDoubts d = new DealDoubts();
        Checks.due("28: empty", d.clearText(), 0);
        d.begin(0, 3, 0);
        Checks.append(d, "y00");
        long before = d.digest();
        Checks.due("28: three characters", d.clearText(), 3);
        Checks.due("28: empty again", d.clearText(), 0);
        Checks.due("28: savedStates()", d.savedStates(), 1);
        Checks.due("28: digest()", d.digest(), before);
        Checks.append(d, "x0");
        Checks.due("28: old characters are gone", d.firstError(), 2);
    }

    private static void dueError(String text, int want) {
        DealDoubts d = new DealDoubts();
        Checks.append(d, text);
        Checks.due("29: " + text, d.firstError(), want);
        Checks.due("29: it changes nothing, " + text, d.clearText(), text.length());
    }

    private static void promise29Kinds() {
        dueError("", 0);
        for (char sign = 33; sign <= 126; sign++) {
            boolean isKind = KINDS.indexOf(sign) >= 0;
            dueError("" + sign, isKind ? 1 : 0);
            dueError("d0;" + sign, isKind ? 4 : 3);
            dueError("d0" + sign, sign == ';' ? 3 : 2);
            dueError("t20" + sign, sign == ';' ? 4 : 3);
        }
    }

    private static void promise29DealsAndSites() {
        for (char sign = 33; sign <= 126; sign++) {
            boolean isDeal = sign >= '0' && sign <= '7';
            boolean isSite = sign >= '0' && sign <= '5';
            dueError("d" + sign, isDeal ? 2 : 1);
            for (char kind : "ynga".toCharArray()) {
                dueError("" + kind + sign, isDeal ? 2 : 1);
                dueError("" + kind + '7' + sign, isSite ? 3 : 2);
            }
            for (char kind : "xu".toCharArray()) {
                dueError("" + kind + sign, isSite ? 2 : 1);
            }
        }
    }

    private static void promise29AnotherSite() {
        for (char asker = '0'; asker <= '5'; asker++) {
            for (char sign = 33; sign <= 126; sign++) {
                boolean isOther = sign >= '0' && sign <= '5' && sign != asker;
                dueError("a" + asker + asker + sign, isOther ? 4 : 3);
                dueError("a7" + asker + sign, isOther ? 4 : 3);
            }
        }
        dueError("a012", 4);
        dueError("a0123", 4);
    }

    private static void promise29Ticks() {
        for (char sign = 33; sign <= 126; sign++) {
            boolean isDigit = sign >= '0' && sign <= '9';
            dueError("t" + sign, isDigit && sign != '0' ? 2 : 1);
            dueError("t1" + sign, isDigit || sign == ';' ? 3 : 2);
            dueError("t2" + sign, sign == '0' || sign == ';' ? 3 : 2);
            dueError("t3" + sign, sign == ';' ? 3 : 2);
            dueError("t19" + sign, sign == ';' ? 4 : 3);
        }
        dueError("t01", 1);
    }

    private static void promise29Texts() {
        dueError("y00;n75;d7;g05;a701;x0;u5;t1;t9;t10;t20", 39);
        dueError("y00;", 4);
        dueError("y00;;", 4);
        dueError(";y00", 0);
        dueError("y00,y01", 3);
        dueError("Y00", 0);
        dueError("y8y8", 1);
        dueError("x0;zz;y9", 3);
        dueError("x0;".repeat(20), 60);
        dueError("x0;".repeat(19) + "d!", 58);
    }

    private static int runOf(DealDoubts d, String text) {
        Checks.append(d, text);
        return d.run();
    }

    private static void promise30EachKind() {
        DealDoubts d = new DealDoubts();
        d.begin(3, 7, 0);
        Checks.due("30: y", runOf(d, "y00"), 1);
        Checks.due("30: y is yes", d.state(0, 0), 1);
        Checks.due("30: n", runOf(d, "n01"), 1);
        Checks.due("30: n is no", d.state(0, 1), 3);
        Checks.due("30: d", runOf(d, "d0"), 1);
        Checks.due("30: d decides", d.decision(0), 3);
        Checks.due("30: g", runOf(d, "g02"), 1);
        Checks.due("30: g tells", d.state(0, 2), 3);
        Checks.due("30: a", runOf(d, "a001"), 1);
        Checks.due("30: a asks", d.state(0, 0), 3);
        Checks.due("30: a counts", d.asked(), 1);
        Checks.due("30: x", runOf(d, "x4"), 1);
        Checks.due("30: x silences", d.isUp(4), false);
        Checks.due("30: u", runOf(d, "u4"), 1);
        Checks.due("30: u wakes", d.isUp(4), true);
        d.begin(3, 7, 5);
        Checks.due("30: another deal, another site", runOf(d, "y12;n10;a120"), 3);
        Checks.dueStates("30", d, 1, 3, 0, 3, -1, -1, -1);
        Checks.dueLog("30: in their order", d, 2, 3, 11, 13);
    }

    private static void promise30Ticks() {
        int[] ticks = {1, 2, 3, 9, 10, 11, 19, 20};
        for (int number : ticks) {
            DealDoubts d = new DealDoubts();
            d.setPatience(20);
            d.begin(5, 3, 0);
            d.vote(0, 0, true);
            d.vote(0, 1, true);
            d.fallSilent(5);
            Checks.due("30: t" + number, runOf(d, "t" + number), 1);
            Checks.due("30: patience after t" + number, d.patience(0, 0), number == 20 ? 20 : 20 - number);
            Checks.due("30: asked() after t" + number, d.asked(), number == 20 ? 8 : 0);
        }
        DealDoubts d = new DealDoubts();
        d.begin(0, 6, 0);
        d.vote(0, 1, true);
        Checks.due("30: two numbers", runOf(d, "t1;t2;x5"), 3);
        Checks.due("30: after three ticks", d.state(0, 1), 3);
    }

    private static void promise30StopsAtTheFirst() {
        DealDoubts d = new DealDoubts();
        d.begin(3, 7, 0);
        Checks.due("30: the third one would throw", runOf(d, "y00;y01;y00;y02;x5"), 2);
        Checks.dueStates("30: what was done stays", d, 0, 1, 1, 0, -1, -1, -1);
        Checks.due("30: what comes later is not done", d.isUp(5), true);
        Checks.due("30: the buffer is empty", d.clearText(), 0);
        Checks.due("30: savedStates()", d.savedStates(), 2);
        Checks.due("30: the first one would throw", runOf(d, "y00;y02"), 0);
        Checks.due("30: saved all the same", d.savedStates(), 3);
        Checks.due("30: the last one would throw", runOf(d, "y02;u0"), 1);
    }

    private static void promise30StopsWhereMethodsThrow() {
        DealDoubts d = new DealDoubts();
        for (String text : new String[] {"y00", "n70", "d0", "d7", "g00", "a001", "u0"}) {
            Checks.due("30: without deals, " + text, runOf(d, text), 0);
        }
        d.begin(3, 7, 0);
        d.begin(3, 7, 1);
        d.vote(1, 1, true);
        d.fallSilent(2);
        for (String text : new String[] {"y03", "n04", "y02", "n11", "g00", "a001", "a123", "a112", "x2", "u0", "d2"}) {
            Checks.due("30: it would throw, " + text, runOf(d, text), 0);
        }
        d.decide(0);
        for (String text : new String[] {"d0", "g02", "g03"}) {
            Checks.due("30: decided, " + text, runOf(d, text), 0);
        }
        d.fallSilent(3);
        for (String text : new String[] {"d1", "g00", "a113"}) {
            Checks.due("30: a silent leader, " + text, runOf(d, text), 0);
        }
        Checks.dueStates("30: nothing was done", d, 0, 0, 0, 0, -1, -1, -1);
        Checks.due("30: asked()", d.asked(), 0);
    }

    private static void promise30IsOneCall() {
        DealDoubts d = new DealDoubts();
        d.begin(3, 7, 0);
        long before = d.digest();
        Checks.due("30: seven actions", runOf(d, "y00;y01;y02;d0;g00;x5;t3"), 7);
        Checks.dueStates("30: two of them asked in the ticks", d, 0, 2, 2, 2, -1, -1, -1);
        Checks.due("30: savedStates()", d.savedStates(), 2);
        Checks.due("30: undo", d.undo(), 1);
        Checks.due("30: undo of all of them", d.digest(), before);
        Checks.due("30: the buffer stays empty", d.clearText(), 0);
    }

    private static void promise30Refusals() {
        DealDoubts d = new DealDoubts();
        d.begin(3, 7, 0);
        Checks.refused("30: an empty buffer", d, Checks.ARGUMENT, d::run);
        String[] texts = {"y", "y0", "y00;", "y00;y", "y00;d0;a01", "t", "t0", "t21", "t1;t", "a011", ";", "y00;;y01",
            "x6", "d8", "y00!", "y00x", "t20;x0;"};
        for (String text : texts) {
            Checks.append(d, text);
            Checks.refused("30: " + text, d, Checks.ARGUMENT, d::run);
            Checks.due("30: the buffer stays, " + text, d.clearText(), text.length());
        }
        Checks.due("30: nothing was done", d.state(0, 0), 0);
        Checks.due("30: nothing was saved", d.savedStates(), 1);
        Checks.append(d, "y0");
        Checks.refused("30: not yet", d, Checks.ARGUMENT, d::run);
        d.append('0');
        Checks.due("30: now", d.run(), 1);
    }

    private static void promise30LongText() {
        DealDoubts d = new DealDoubts();
        Checks.due("30: sixty characters", runOf(d, "x0;u0;".repeat(9) + "x0;t10"), 20);
        Checks.due("30: they end silent", d.isUp(0), false);
        DealDoubts e = new DealDoubts();
        Checks.due("30: many ticks", runOf(e, "t20;".repeat(14) + "x0"), 15);
        Checks.due("30: after them", e.isUp(0), false);
    }

    /** An action of two characters at the very end of a full buffer has no character behind it. */
    private static void promise30ShortActionAtTheLimit() {
        String start = "t20;" + "t1;".repeat(18);
        for (String action : new String[] {"d0", "x0", "u5", "t9"}) {
            DealDoubts d = new DealDoubts();
            d.begin(1, 7, 0);
            d.fallSilent(5);
            Checks.due("30: sixty characters, " + action, runOf(d, start + action), 20);
            Checks.due("30: decision(0) after " + action, d.decision(0), action.equals("d0") ? 3 : 0);
            Checks.due("30: isUp(0) after " + action, d.isUp(0), !action.equals("x0"));
            Checks.due("30: isUp(5) after " + action, d.isUp(5), action.equals("u5"));
            Checks.due("30: buffer after " + action, d.clearText(), 0);
        }
    }
}
