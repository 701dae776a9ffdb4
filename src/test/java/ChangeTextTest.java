/** Promises 27 to 30: the change text. */
public final class ChangeTextTest {
    private static final Check check = new Check("ChangeTextTest");

    public static void main(String[] args) {
        append();
        clearText();
        firstError();
        firstErrorOfEveryCharacter();
        runNeedsCompleteText();
        runDoesParts();
        runStopsAtFirstThatThrows();
        runDoesEveryKind();
        runFillsAndEmpties();
        runIsOneUndo();
        check.end();
    }

    private static void append() {
        DoorstepRounds x = new DoorstepRounds();
        for (int wrong : new int[] {32, 127, 0, -1, 255, Integer.MIN_VALUE, Integer.MAX_VALUE}) {
            check.dueThrow("27: append(" + wrong + ")", x, IllegalArgumentException.class, () -> x.append(wrong));
        }
        check.due("27: append(33)", 1, () -> x.append(33));
        check.due("27: append(126)", 2, () -> x.append(126));
        for (int i = 3; i <= 60; i++) {
            check.due("27: append('p')", i, () -> x.append('p'));
        }
        check.dueThrow("27: a 61st character", x, IllegalStateException.class, () -> x.append('p'));
        check.dueThrow("27: a wrong 61st character", x, IllegalArgumentException.class, () -> x.append(32));
        check.due("27: savedStates()", 0, () -> x.savedStates());
        check.due("28: clearText()", 60, () -> x.clearText());
        check.due("27: append('d') behind it", 1, () -> x.append('d'));
    }

    private static void clearText() {
        DoorstepRounds x = new DoorstepRounds();
        check.due("28: clearText() of nothing", 0, () -> x.clearText());
        Check.write(x, "zz");
        check.due("29: firstError()", 0, () -> x.firstError());
        check.due("28: clearText()", 2, () -> x.clearText());
        check.due("29: firstError() behind it", 0, () -> x.firstError());
        check.due("28: clearText() again", 0, () -> x.clearText());
        check.due("28: savedStates()", 0, () -> x.savedStates());
    }

    private static void error(String text, int want) {
        DoorstepRounds x = new DoorstepRounds();
        Check.write(x, text);
        check.due("29: firstError() of " + text, want, () -> x.firstError());
        check.due("29: firstError() of " + text + " again", want, () -> x.firstError());
        check.due("28: clearText() of " + text, text.length(), () -> x.clearText());
    }

    private static void firstError() {
        error("", 0);
        error("+", 1);
        error("+1", 2);
        error("+9;", 3);
        error("+0", 1);
        error("+12", 2);
        error("-", 1);
        error("-0", 2);
        error("-00", 2);
        error("-01", 2);
        error("-1", 2);
        error("-10", 3);
        error("-19;-2;-9", 9);
        error("-190", 3);
        error("-20", 2);
        error("-;", 1);
        error("-1;", 3);
        error("-1p", 2);
        error("-a", 1);
        error("c5", 2);
        error("c6", 1);
        error("l0;l5", 5);
        error("l6", 1);
        error("c;", 1);
        error("p;h;x;d", 7);
        error("pp", 1);
        error(";", 0);
        error("p;;", 2);
        error("P", 0);
        error("p;q;p", 2);
        error("5", 0);
        error("p;h;x;d;p;h;x;d;p;h;x;d;p;h;x;d;p;h;x;d;p;h;x;d;p;h;x;d;p;h;", 60);
    }

    private static void firstErrorOfEveryCharacter() {
        String[] begun = {"", "+", "-", "-1", "-2", "c", "l", "p", "-12", "p;"};
        String[] allowed = {"+-clphxd", "123456789", "0123456789", "0123456789;", ";", "012345", "012345", ";", ";",
            "+-clphxd"};
        for (int i = 0; i < begun.length; i++) {
            for (int code = 33; code <= 126; code++) {
                DoorstepRounds x = new DoorstepRounds();
                Check.write(x, begun[i]);
                x.append(code);
                int length = begun[i].length();
                int want = allowed[i].indexOf(code) >= 0 ? length + 1 : length;
                check.due("29: firstError() of " + begun[i] + (char) code, want, () -> x.firstError());
            }
        }
    }

    private static void runNeedsCompleteText() {
        String[] incomplete = {"", "+", "-", "c", "l", "p;", "+1;-", "q", "pp", "p;;p", ";p", "-20", "+0", "c6", "+1;z"};
        for (String text : incomplete) {
            DoorstepRounds x = Check.dairy(Check.milkmen(0), 1);
            Check.write(x, text);
            check.dueThrow("30: run() of " + text, x, IllegalArgumentException.class, () -> x.run());
            check.due("30: the buffer stays, " + text, text.length(), () -> x.clearText());
        }
    }

    private static void runDoesParts() {
        DoorstepRounds x = new DoorstepRounds();
        Check.write(x, "+3;+9;c2;p;h;h;d");
        check.due("30: run()", 7, () -> x.run());
        check.due("30: clearText() behind it", 0, () -> x.clearText());
        check.due("7: doorsteps()", 2, () -> x.doorsteps());
        check.due("8: pints(0)", 3, () -> x.pints(0));
        check.due("8: pints(1)", 9, () -> x.pints(1));
        check.due("9: owner(0)", 2, () -> x.owner(0));
        check.due("20: delivered()", 12, () -> x.delivered());
        check.due("18: changed()", 2, () -> x.changed());
        check.due("32: savedStates()", 1, () -> x.savedStates());
        Check.write(x, "-1");
        check.due("30: run() of -1", 1, () -> x.run());
        check.due("7: doorsteps()", 1, () -> x.doorsteps());
        Check.write(x, "l2");
        check.due("30: run() of l2", 1, () -> x.run());
        check.due("10: isAtWork(2)", 0, () -> x.isAtWork(2) ? 1 : 0);
        check.due("9: owner(0)", -1, () -> x.owner(0));
    }

    private static void stops(String text, int want, String state) {
        DoorstepRounds x = Check.dairy(Check.milkmen(0), 4, 5);
        Check.share(x);
        int saved = x.savedStates();
        Check.write(x, text);
        check.due("30: run() of " + text, want, () -> x.run());
        check.due("30: savedStates() behind " + text, Math.min(6, saved + 1), () -> x.savedStates());
        check.due("30: the buffer behind " + text, 0, () -> x.clearText());
        String got = x.doorsteps() + "/" + x.handover() + "/" + x.delivered() + "/" + (x.isAtWork(1) ? 1 : 0);
        check.compare("30: the state behind " + text, got, state);
    }

    private static void runStopsAtFirstThatThrows() {
        stops("-2;d", 0, "2/0/0/0");
        stops("d;-19;d", 1, "2/0/9/0");
        stops("c0;d", 0, "2/0/0/0");
        stops("l1;d", 0, "2/0/0/0");
        stops("h;d", 0, "2/0/0/0");
        stops("x;d", 0, "2/0/0/0");
        // the plan has no changes, so there is no handover
        stops("p;h;d", 1, "2/0/0/0");
        stops("c1;p;+1;d", 2, "2/1/0/1");
        stops("c1;p;-0;d", 2, "2/1/0/1");
        stops("c1;p;c2;d", 2, "2/1/0/1");
        stops("c1;p;l1;d", 2, "2/1/0/1");
        stops("c1;p;p;d", 2, "2/1/0/1");
        stops("c1;p;h;p;d", 3, "2/2/0/1");
        stops("c1;p;h;d;x;d;x", 6, "2/0/14/1");
        stops("l0;p", 1, "2/0/0/0");
    }

    private static void runDoesEveryKind() {
        DoorstepRounds x = new DoorstepRounds();
        Check.write(x, "+1;+2;+3;+4;+5;+6;+7;+8;+9;+1;+2;+3;+4;+5;+6;+7;+8;+9;+1;+2");
        check.due("30: run() that fills the dairy", 20, () -> x.run());
        Check.write(x, "+1;d");
        check.due("30: run() of a 21st doorstep", 0, () -> x.run());
        check.due("21: misses()", 0, () -> x.misses());
        Check.write(x, "-19;-10;-9;-0");
        check.due("30: run() that removes", 4, () -> x.run());
        check.due("7: doorsteps()", 16, () -> x.doorsteps());
        check.due("8: pints(0)", 2, () -> x.pints(0));
        check.due("8: pints(8)", 3, () -> x.pints(8));
        check.due("8: pints(15)", 1, () -> x.pints(15));
        Check.write(x, "c0;c1;c2;c3;c4;c5;l5;c5");
        check.due("30: run() of milkmen", 8, () -> x.run());
        check.due("24: changesToCome()", 16, () -> x.changesToCome());
        Check.write(x, "p;h;x;p;x;p;h;h;d");
        check.due("30: run() of handovers", 9, () -> x.run());
        check.due("18: changed()", 16, () -> x.changed());
    }

    private static void runFillsAndEmpties() {
        DoorstepRounds x = Check.dairy(Check.milkmen(1), 7);
        Check.share(x);
        Check.write(x, "d;d;d;d;d;d;d;d;d;d;d;d;d;d;d;d;d;d;d;d;d;d;d;d;d;d;d;d;d;-0");
        check.due("30: run() of 60 characters", 30, () -> x.run());
        check.due("20: delivered()", 203, () -> x.delivered());
        check.due("7: doorsteps()", 0, () -> x.doorsteps());
        check.due("27: append() behind it", 1, () -> x.append('d'));
    }

    private static void runIsOneUndo() {
        DoorstepRounds x = new DoorstepRounds();
        x.addDoorstep(5);
        long digest = x.digest();
        Check.write(x, "c0;c1;p;h;h;d;+4");
        check.due("30: run()", 7, () -> x.run());
        check.due("31: undo()", 1, () -> x.undo());
        check.due("33: digest() behind undo", digest, () -> x.digest());
        check.due("28: undo leaves the buffer", 0, () -> x.clearText());
        Check.write(x, "h");
        check.due("30: run() that does nothing", 0, () -> x.run());
        check.due("32: savedStates() one more", 2, () -> x.savedStates());
        Check.write(x, "p;");
        check.due("31: undo()", 1, () -> x.undo());
        check.due("28: undo leaves the buffer", 2, () -> x.clearText());
    }
}
