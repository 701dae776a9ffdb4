/** Promises 1 to 12: doorsteps and milkmen. */
public final class DoorstepsTest {
    private static final Check check = new Check("DoorstepsTest");

    public static void main(String[] args) {
        newObject();
        addDoorstep();
        removeDoorstep();
        setPints();
        come();
        leave();
        rounds();
        wrongNumbers();
        check.end();
    }

    private static void newObject() {
        DoorstepRounds x = new DoorstepRounds();
        check.due("1: NONE", -1, () -> DoorstepRounds.NONE);
        check.due("1: doorsteps()", 0, () -> x.doorsteps());
        for (int m = 0; m < 6; m++) {
            int milkman = m;
            check.due("1: isAtWork(" + m + ")", 0, () -> x.isAtWork(milkman) ? 1 : 0);
            check.due("1: size(" + m + ")", 0, () -> x.size(milkman));
            check.due("1: load(" + m + ")", 0, () -> x.load(milkman));
            check.due("1: changesIf(" + m + ")", 0, () -> x.changesIf(milkman));
        }
        check.due("1: handover()", 0, () -> x.handover());
        check.due("1: changed()", 0, () -> x.changed());
        check.due("1: delivered()", 0, () -> x.delivered());
        check.due("1: misses()", 0, () -> x.misses());
        check.due("1: changesToCome()", -1, () -> x.changesToCome());
        check.due("1: savedStates()", 0, () -> x.savedStates());
        check.due("1: firstError()", 0, () -> x.firstError());
        check.due("1: clearText()", 0, () -> x.clearText());
    }

    private static void addDoorstep() {
        DoorstepRounds x = new DoorstepRounds();
        for (int i = 0; i < 20; i++) {
            int pints = i % 9 + 1;
            check.due("2: addDoorstep(" + pints + ")", i, () -> x.addDoorstep(pints));
            int doorstep = i;
            check.due("2: owner(" + i + ")", -1, () -> x.owner(doorstep));
            check.due("2: pints(" + i + ")", pints, () -> x.pints(doorstep));
            check.due("2: doorsteps()", i + 1, () -> x.doorsteps());
        }
        check.due("2: savedStates()", 6, () -> x.savedStates());
        check.dueThrow("2: a 21st doorstep", x, IllegalStateException.class, () -> x.addDoorstep(1));
        check.dueThrow("2: a 21st doorstep with 0 pints", x, IllegalArgumentException.class, () -> x.addDoorstep(0));
        DoorstepRounds y = new DoorstepRounds();
        check.dueThrow("2: addDoorstep(0)", y, IllegalArgumentException.class, () -> y.addDoorstep(0));
        check.dueThrow("2: addDoorstep(10)", y, IllegalArgumentException.class, () -> y.addDoorstep(10));
        check.dueThrow("2: addDoorstep(-5)", y, IllegalArgumentException.class, () -> y.addDoorstep(-5));
        check.due("2: addDoorstep(1)", 0, () -> y.addDoorstep(1));
        check.due("2: addDoorstep(9)", 1, () -> y.addDoorstep(9));
        check.due("2: undo()", 1, () -> y.undo());
        check.due("2: doorsteps() behind undo", 1, () -> y.doorsteps());
        y.come(0);
        y.plan();
        check.dueThrow("2: during a handover", y, IllegalStateException.class, () -> y.addDoorstep(1));
        check.dueThrow("2: 10 during a handover", y, IllegalArgumentException.class, () -> y.addDoorstep(10));
        y.handOver();
        check.dueThrow("2: before the second step", y, IllegalStateException.class, () -> y.addDoorstep(1));
        y.handOver();
        check.due("2: behind the handover", 1, () -> y.addDoorstep(1));
    }

    private static void removeDoorstep() {
        DoorstepRounds x = Check.dairy(Check.milkmen(3), 2, 4, 6);
        Check.share(x);
        x.addDoorstep(8);
        check.dueThrow("3: removeDoorstep(4)", x, IndexOutOfBoundsException.class, () -> x.removeDoorstep(4));
        check.dueThrow("3: removeDoorstep(-1)", x, IndexOutOfBoundsException.class, () -> x.removeDoorstep(-1));
        check.due("3: removeDoorstep(1)", 3, () -> x.removeDoorstep(1));
        check.due("3: doorsteps()", 3, () -> x.doorsteps());
        check.due("3: pints(0)", 2, () -> x.pints(0));
        check.due("3: pints(1)", 6, () -> x.pints(1));
        check.due("3: pints(2)", 8, () -> x.pints(2));
        check.due("3: owner(1)", 3, () -> x.owner(1));
        check.due("3: owner(2)", -1, () -> x.owner(2));
        check.due("3: size(3)", 2, () -> x.size(3));
        check.due("3: load(3)", 8, () -> x.load(3));
        check.due("3: removeDoorstep(2)", -1, () -> x.removeDoorstep(2));
        x.undo();
        check.due("3: doorsteps() behind undo", 3, () -> x.doorsteps());
        check.due("3: pints(2) behind undo", 8, () -> x.pints(2));
        x.undo();
        check.due("3: pints(1) behind two undos", 4, () -> x.pints(1));
        x.plan();
        check.dueThrow("3: during a handover", x, IllegalStateException.class, () -> x.removeDoorstep(0));
        check.dueThrow("3: 4 during a handover", x, IndexOutOfBoundsException.class, () -> x.removeDoorstep(4));
        fullDairyLosesItsLast();
    }

    private static void fullDairyLosesItsLast() {
        DoorstepRounds x = new DoorstepRounds();
        for (int i = 0; i < 20; i++) {
            x.addDoorstep(i % 9 + 1);
        }
        check.due("3: removeDoorstep(0) of 20", -1, () -> x.removeDoorstep(0));
        check.due("3: pints(18) of 19", 2, () -> x.pints(18));
        x.undo();
        check.due("3: removeDoorstep(19) of 20", -1, () -> x.removeDoorstep(19));
        check.due("3: removeDoorstep(0) of 19", -1, () -> x.removeDoorstep(0));
        for (int i = 0; i < 18; i++) {
            int doorstep = i;
            check.due("3: pints(" + i + ") of 18", (i + 1) % 9 + 1, () -> x.pints(doorstep));
        }
        check.due("3: addDoorstep(5) again", 18, () -> x.addDoorstep(5));
        check.due("3: pints(18)", 5, () -> x.pints(18));
    }

    private static void setPints() {
        DoorstepRounds x = Check.dairy(Check.milkmen(0, 1), 3, 5);
        check.due("4: setPints(1, 9)", 5, () -> x.setPints(1, 9));
        check.due("4: setPints(1, 9) again", 9, () -> x.setPints(1, 9));
        check.due("4: savedStates()", 6, () -> x.savedStates());
        check.due("4: setPints(1, 1)", 9, () -> x.setPints(1, 1));
        check.due("4: pints(1)", 1, () -> x.pints(1));
        check.due("4: pints(0)", 3, () -> x.pints(0));
        check.dueThrow("4: setPints(2, 5)", x, IndexOutOfBoundsException.class, () -> x.setPints(2, 5));
        check.dueThrow("4: setPints(-1, 5)", x, IndexOutOfBoundsException.class, () -> x.setPints(-1, 5));
        check.dueThrow("4: setPints(2, 0)", x, IndexOutOfBoundsException.class, () -> x.setPints(2, 0));
        check.dueThrow("4: setPints(1, 0)", x, IllegalArgumentException.class, () -> x.setPints(1, 0));
        check.dueThrow("4: setPints(1, 10)", x, IllegalArgumentException.class, () -> x.setPints(1, 10));
        x.undo();
        check.due("4: pints(1) behind undo", 9, () -> x.pints(1));
        // by 3 and 9 pints the plan is: 1 to milkman 0, 0 to milkman 1
        x.plan();
        check.due("4: planned(1)", 0, () -> x.planned(1));
        check.due("4: setPints(1, 2) during a handover", 9, () -> x.setPints(1, 2));
        check.due("4: planned(1), the plan stays", 0, () -> x.planned(1));
        check.due("4: planned(0), the plan stays", 1, () -> x.planned(0));
        check.due("4: ifPlanned(1), another plan", 1, () -> x.ifPlanned(1));
        x.handOver();
        check.due("4: setPints(0, 8) before the second step", 3, () -> x.setPints(0, 8));
        x.handOver();
        check.due("4: owner(1)", 0, () -> x.owner(1));
        check.due("4: load(1)", 8, () -> x.load(1));
    }

    private static void come() {
        DoorstepRounds x = new DoorstepRounds();
        check.dueThrow("5: come(6)", x, IndexOutOfBoundsException.class, () -> x.come(6));
        check.dueThrow("5: come(-1)", x, IndexOutOfBoundsException.class, () -> x.come(-1));
        check.due("5: come(5)", 1, () -> x.come(5));
        check.due("5: come(0)", 2, () -> x.come(0));
        check.dueThrow("5: come(5) again", x, IllegalStateException.class, () -> x.come(5));
        check.due("5: isAtWork(5)", 1, () -> x.isAtWork(5) ? 1 : 0);
        check.due("5: isAtWork(4)", 0, () -> x.isAtWork(4) ? 1 : 0);
        check.due("5: savedStates()", 2, () -> x.savedStates());
        check.due("5: undo()", 1, () -> x.undo());
        check.due("5: isAtWork(0) behind undo", 0, () -> x.isAtWork(0) ? 1 : 0);
        x.addDoorstep(1);
        x.plan();
        check.dueThrow("5: come(1) during a handover", x, IllegalStateException.class, () -> x.come(1));
        check.dueThrow("5: come(6) during a handover", x, IndexOutOfBoundsException.class, () -> x.come(6));
        x.callOff();
        check.due("5: come(1)", 2, () -> x.come(1));
        check.due("5: come(2)", 3, () -> x.come(2));
        check.due("5: come(3)", 4, () -> x.come(3));
        check.due("5: come(4)", 5, () -> x.come(4));
        check.due("5: come(0) behind the others", 6, () -> x.come(0));
    }

    private static void leave() {
        DoorstepRounds x = Check.dairy(Check.milkmen(1, 4), 9, 8, 7);
        Check.share(x);
        // 9 to 1, 8 to 4, 7 to 1 who alone has room then
        check.due("6: size(1)", 2, () -> x.size(1));
        check.dueThrow("6: leave(6)", x, IndexOutOfBoundsException.class, () -> x.leave(6));
        check.dueThrow("6: leave(-1)", x, IndexOutOfBoundsException.class, () -> x.leave(-1));
        check.dueThrow("6: leave(0)", x, IllegalStateException.class, () -> x.leave(0));
        check.due("6: leave(1)", 2, () -> x.leave(1));
        check.due("6: owner(0)", -1, () -> x.owner(0));
        check.due("6: owner(1)", 4, () -> x.owner(1));
        check.due("6: owner(2)", -1, () -> x.owner(2));
        check.due("6: isAtWork(1)", 0, () -> x.isAtWork(1) ? 1 : 0);
        check.due("6: size(1) when he is gone", 0, () -> x.size(1));
        check.due("6: load(1) when he is gone", 0, () -> x.load(1));
        check.dueThrow("6: leave(1) again", x, IllegalStateException.class, () -> x.leave(1));
        x.undo();
        check.due("6: owner(2) behind undo", 1, () -> x.owner(2));
        check.due("6: isAtWork(1) behind undo", 1, () -> x.isAtWork(1) ? 1 : 0);
        x.come(0);
        check.due("6: leave(0) without a round", 0, () -> x.leave(0));
        x.addDoorstep(3);
        x.plan();
        check.dueThrow("6: leave(1) during a handover", x, IllegalStateException.class, () -> x.leave(1));
        check.dueThrow("6: leave(6) during a handover", x, IndexOutOfBoundsException.class, () -> x.leave(6));
    }

    private static void rounds() {
        DoorstepRounds x = Check.dairy(Check.milkmen(2, 0), 1, 9, 5, 5);
        Check.share(x);
        // 9 to 0, the first 5 to 2, the second 5 to 2 (load 5 is less than 9), 1 to 0
        check.due("7: doorsteps()", 4, () -> x.doorsteps());
        check.due("8: pints(0)", 1, () -> x.pints(0));
        check.due("8: pints(3)", 5, () -> x.pints(3));
        check.due("9: owner(0)", 0, () -> x.owner(0));
        check.due("9: owner(1)", 0, () -> x.owner(1));
        check.due("9: owner(2)", 2, () -> x.owner(2));
        check.due("9: owner(3)", 2, () -> x.owner(3));
        check.due("10: isAtWork(2)", 1, () -> x.isAtWork(2) ? 1 : 0);
        check.due("10: isAtWork(1)", 0, () -> x.isAtWork(1) ? 1 : 0);
        check.due("11: size(0)", 2, () -> x.size(0));
        check.due("11: size(1)", 0, () -> x.size(1));
        check.due("11: size(2)", 2, () -> x.size(2));
        check.due("12: load(0)", 10, () -> x.load(0));
        check.due("12: load(1)", 0, () -> x.load(1));
        check.due("12: load(2)", 10, () -> x.load(2));
        check.due("4: setPints(2, 1)", 5, () -> x.setPints(2, 1));
        check.due("12: load(2) behind setPints", 6, () -> x.load(2));
    }

    private static void wrongNumbers() {
        DoorstepRounds x = Check.dairy(Check.milkmen(0), 1, 2);
        for (int wrong : new int[] {-1, 2, 20, Integer.MIN_VALUE, Integer.MAX_VALUE}) {
            String end = "(" + wrong + ")";
            check.dueThrow("8: pints" + end, x, IndexOutOfBoundsException.class, () -> x.pints(wrong));
            check.dueThrow("9: owner" + end, x, IndexOutOfBoundsException.class, () -> x.owner(wrong));
            check.dueThrow("3: removeDoorstep" + end, x, IndexOutOfBoundsException.class, () -> x.removeDoorstep(wrong));
        }
        for (int wrong : new int[] {-1, 6, 7, Integer.MIN_VALUE, Integer.MAX_VALUE}) {
            String end = "(" + wrong + ")";
            check.dueThrow("10: isAtWork" + end, x, IndexOutOfBoundsException.class, () -> x.isAtWork(wrong) ? 1 : 0);
            check.dueThrow("11: size" + end, x, IndexOutOfBoundsException.class, () -> x.size(wrong));
            check.dueThrow("12: load" + end, x, IndexOutOfBoundsException.class, () -> x.load(wrong));
        }
    }
}
