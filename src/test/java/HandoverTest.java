/** Promises 13 to 18: sharing out, handing over. */
public final class HandoverTest {
    private static final Check check = new Check("HandoverTest");

    public static void main(String[] args) {
        planOfNothing();
        planGivesOut();
        planTakesFromGreatRounds();
        quotasByRoundAndNumber();
        loadCountsWhatIsKept();
        handOver();
        callOff();
        undoOfSteps();
        undoIntoAnotherHandover();
        planned();
        check.end();
    }

    private static void planOfNothing() {
        DoorstepRounds x = Check.dairy(Check.milkmen(), 4, 4);
        check.dueThrow("13: plan() with nobody at work", x, IllegalStateException.class, () -> x.plan());
        DoorstepRounds y = Check.dairy(Check.milkmen(2));
        check.due("13: plan() without doorsteps", 0, () -> y.plan());
        check.due("13: handover() behind it", 0, () -> y.handover());
        check.due("13: savedStates() behind it", 2, () -> y.savedStates());
        y.addDoorstep(3);
        Check.share(y);
        long digest = y.digest();
        check.due("13: plan() without changes", 0, () -> y.plan());
        check.due("16: handover() behind it", 0, () -> y.handover());
        check.due("13: plan() again", 0, () -> y.plan());
        check.due("31: undo() of it", 5, () -> y.undo());
        check.due("31: undo() of it again", 4, () -> y.undo());
        check.due("13: it was undone, and nothing else", digest, () -> y.digest());
    }

    private static void planGivesOut() {
        DoorstepRounds x = Check.dairy(Check.milkmen(4, 2), 5, 3, 5, 1, 2);
        // quotas: 2 has 3, 4 has 2; in order: 0 (5) to 2, 2 (5) to 4, 1 (3) to 2 by number,
        // 4 (2) to 4 by load, 3 (1) to 2 by room
        check.due("13: plan()", 5, () -> x.plan());
        check.due("16: handover()", 1, () -> x.handover());
        check.planned("13: given out", x, 2, 2, 4, 2, 4);
        check.owners("13: nothing has moved", x, -1, -1, -1, -1, -1);
        check.dueThrow("13: plan() during a handover", x, IllegalStateException.class, () -> x.plan());
        check.due("14: first step, nobody had them", 0, () -> x.handOver());
        check.due("16: handover()", 2, () -> x.handover());
        check.dueThrow("13: plan() before the second step", x, IllegalStateException.class, () -> x.plan());
        check.due("18: changed() before the second step", 0, () -> x.changed());
        check.due("14: second step", 5, () -> x.handOver());
        check.due("16: handover()", 0, () -> x.handover());
        check.due("18: changed()", 5, () -> x.changed());
        check.owners("14: taken over", x, 2, 2, 4, 2, 4);
    }

    private static void planTakesFromGreatRounds() {
        DoorstepRounds x = Check.dairy(Check.milkmen(1), 2, 7, 2, 7, 5);
        Check.share(x);
        x.come(0);
        x.come(5);
        // quotas: 1 has 2 and is first, then 0 has 2, 5 has 1; 1 keeps the sevens
        check.due("13: plan()", 3, () -> x.plan());
        check.planned("13: kept by pints", x, 5, 1, 0, 1, 0);
        check.due("14: given up", 3, () -> x.handOver());
        check.owners("14: nobody's for a while", x, -1, 1, -1, 1, -1);
        check.due("14: taken over", 3, () -> x.handOver());
        check.owners("14: taken over", x, 5, 1, 0, 1, 0);
        check.due("18: changed() in all handovers", 8, () -> x.changed());
        DoorstepRounds y = Check.dairy(Check.milkmen(3), 6, 6, 6);
        Check.share(y);
        y.come(2);
        // among the same pints the least numbers are kept
        check.due("13: plan()", 1, () -> y.plan());
        check.planned("13: kept by number", y, 3, 3, 2);
    }

    private static void quotasByRoundAndNumber() {
        DoorstepRounds x = Check.dairy(Check.milkmen(0), 1, 1);
        Check.share(x);
        x.come(3);
        Check.share(x);
        check.owners("13: one each", x, 0, 3);
        x.addDoorstep(9);
        // both rounds have the size 1: the least number has 1 more
        check.due("13: plan()", 1, () -> x.plan());
        check.planned("13: by number", x, 0, 3, 0);
        x.undo();
        x.removeDoorstep(0);
        // now 3 has the greatest round, and 0 an empty one
        check.due("13: plan()", 1, () -> x.plan());
        check.planned("13: quotas 1 and 1", x, 3, 0);
        x.callOff();
        x.addDoorstep(2);
        // 3 has 1 more: 9 to 0, 2 to 3
        check.due("13: plan()", 2, () -> x.plan());
        check.planned("13: the greatest round first", x, 3, 0, 3);
        x.handOver();
        x.handOver();
        x.come(1);
        x.come(2);
        x.come(4);
        // five milkmen and three doorsteps: quotas 3: 1, 0: 1, then 1: 1 by number
        check.due("13: plan() with more milkmen than doorsteps", 1, () -> x.plan());
        check.planned("13: more milkmen than doorsteps", x, 1, 0, 3);
    }

    private static void loadCountsWhatIsKept() {
        DoorstepRounds x = Check.dairy(Check.milkmen(0, 1), 9, 1);
        Check.share(x);
        check.owners("13: 9 to 0, 1 to 1", x, 0, 1);
        x.addDoorstep(4);
        x.addDoorstep(3);
        // 0 keeps 9, 1 keeps 1: 4 goes to 1 by load, and 3 to 0 by room
        check.due("13: plan()", 2, () -> x.plan());
        check.planned("13: by load", x, 0, 1, 1, 0);
    }

    private static void handOver() {
        DoorstepRounds x = Check.dairy(Check.milkmen(0), 3, 4);
        check.dueThrow("14: handOver() without a handover", x, IllegalStateException.class, () -> x.handOver());
        Check.share(x);
        check.dueThrow("14: handOver() behind the handover", x, IllegalStateException.class, () -> x.handOver());
        x.come(1);
        x.addDoorstep(5);
        // 0 has 2 of 3; 5 to 1; nothing is given up
        check.due("13: plan()", 1, () -> x.plan());
        check.due("14: nothing is given up", 0, () -> x.handOver());
        check.due("14: taken over", 1, () -> x.handOver());
        check.owners("14: taken over", x, 0, 0, 1);
        check.due("14: savedStates() behind them", 6, () -> x.savedStates());
    }

    private static void callOff() {
        DoorstepRounds x = Check.dairy(Check.milkmen(2), 1, 2, 3, 4);
        check.dueThrow("15: callOff() without a handover", x, IllegalStateException.class, () -> x.callOff());
        Check.share(x);
        x.come(0);
        x.addDoorstep(9);
        // quotas: 2 has 3, 0 has 2; 2 keeps 4, 3, 2; 9 and 1 to 0
        check.due("13: plan()", 2, () -> x.plan());
        check.due("15: callOff() before the first step", 0, () -> x.callOff());
        check.due("16: handover()", 0, () -> x.handover());
        check.owners("15: as before", x, 2, 2, 2, 2, -1);
        x.plan();
        check.due("14: given up", 1, () -> x.handOver());
        check.owners("14: one is nobody's", x, -1, 2, 2, 2, -1);
        check.due("15: callOff() before the second step", 1, () -> x.callOff());
        check.owners("15: given back", x, 2, 2, 2, 2, -1);
        check.due("16: handover()", 0, () -> x.handover());
        check.due("18: changed() does not count it", 4, () -> x.changed());
        check.dueThrow("15: callOff() again", x, IllegalStateException.class, () -> x.callOff());
        check.due("15: undo()", 5, () -> x.undo());
        check.due("16: handover() behind undo", 2, () -> x.handover());
        check.owners("15: undone", x, -1, 2, 2, 2, -1);
        check.due("14: handOver()", 2, () -> x.handOver());
        check.owners("14: taken over", x, 0, 2, 2, 2, 0);
    }

    private static void undoOfSteps() {
        DoorstepRounds x = Check.dairy(Check.milkmen(2), 1, 2);
        Check.share(x);
        x.come(0);
        x.plan();
        x.handOver();
        x.handOver();
        check.due("18: changed()", 3, () -> x.changed());
        x.undo();
        check.due("18: changed() behind undo", 2, () -> x.changed());
        check.due("16: handover() behind undo", 2, () -> x.handover());
        x.undo();
        check.due("16: handover() behind two undos", 1, () -> x.handover());
        check.owners("14: undone", x, 2, 2);
        check.due("17: planned(0) behind two undos", 0, () -> x.planned(0));
        x.undo();
        check.due("16: handover() behind three undos", 0, () -> x.handover());
        check.due("17: planned(0) behind three undos", 2, () -> x.planned(0));
    }

    private static void undoIntoAnotherHandover() {
        DoorstepRounds x = Check.dairy(Check.milkmen(2), 1, 2);
        Check.share(x);
        x.come(0);
        x.plan();
        x.handOver();
        check.planned("17: the first plan", x, 0, 2);
        check.owners("14: given up", x, -1, 2);
        x.callOff();
        x.leave(2);
        check.due("13: plan() of another handover", 2, () -> x.plan());
        check.planned("17: the second plan", x, 0, 0);
        x.undo();
        x.undo();
        x.undo();
        check.due("16: handover() of the first plan", 2, () -> x.handover());
        check.planned("17: the first plan again", x, 0, 2);
        check.due("15: callOff() of the first plan", 1, () -> x.callOff());
        check.owners("15: given back", x, 2, 2);
    }

    private static void planned() {
        DoorstepRounds x = Check.dairy(Check.milkmen(1), 1, 2);
        check.planned("17: without a handover nobody", x, -1, -1);
        x.plan();
        check.planned("17: in a handover", x, 1, 1);
        x.handOver();
        check.planned("17: before the second step", x, 1, 1);
        x.handOver();
        check.planned("17: behind the handover", x, 1, 1);
        x.leave(1);
        check.planned("17: to whom it belongs", x, -1, -1);
        for (int wrong : new int[] {-1, 2, Integer.MIN_VALUE, Integer.MAX_VALUE}) {
            check.dueThrow("17: planned(" + wrong + ")", x, IndexOutOfBoundsException.class, () -> x.planned(wrong));
        }
    }
}
