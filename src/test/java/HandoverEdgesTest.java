import java.util.function.ToLongFunction;

/** 'Handing over' and promises 13 to 18: a test for each sentence that names an edge. */
public final class HandoverEdgesTest {
    private static final Check check = new Check("HandoverEdgesTest");
    private static final int N = Dairies.NONE;

    public static void main(String[] args) {
        check.each(
            HandoverEdgesTest::handoverAfterPlan, HandoverEdgesTest::whatIsAChange,
            HandoverEdgesTest::alwaysTwoSteps, HandoverEdgesTest::firstStepGivesUp,
            HandoverEdgesTest::noneToGiveUp, HandoverEdgesTest::secondStepTakesOver,
            HandoverEdgesTest::refusedInHandover, HandoverEdgesTest::allowedBehindHandover,
            HandoverEdgesTest::callOffBeforeFirstStep, HandoverEdgesTest::callOffBehindFirstStep,
            HandoverEdgesTest::callOffOfSecondHandover, HandoverEdgesTest::noHandoverWithoutChanges,
            HandoverEdgesTest::planRefused, HandoverEdgesTest::handOverReturns, HandoverEdgesTest::removedTakesNoPart,
            HandoverEdgesTest::handOverWithoutHandover, HandoverEdgesTest::callOffWithoutHandover,
            HandoverEdgesTest::callOffReturns, HandoverEdgesTest::handoverReturns,
            HandoverEdgesTest::plannedReturns, HandoverEdgesTest::plannedWithoutHandover,
            HandoverEdgesTest::plannedRefused, HandoverEdgesTest::changedInAllHandovers,
            HandoverEdgesTest::changedCountsTakenOver, HandoverEdgesTest::planStaysWhenPintsChange);
        check.end();
    }

    private static int[] row(int... numbers) {
        return Dairies.row(numbers);
    }

    /** 0 and 1 give up the doorstep 0 and 1 each for 2, who gets the doorstep 8 too, which is nobody's. */
    private static DoorstepRounds twoGiveUp() {
        return Dairies.owned(row(0, 1, 2), row(1, 1, 2, 2, 3, 3, 4, 4, 9), row(0, 1, 0, 1, 0, 1, 0, 1, N));
    }

    private static void handoverAfterPlan() {
        check.says("After a plan was made, there is a handover");
        DoorstepRounds x = Dairies.fresh(1, 1);
        check.due("plan()", 1, () -> x.plan());
        check.due("handover()", 1, () -> x.handover());
        check.owners("nothing moves yet", x, -1);
        check.planned("it shall move", x, 0);
        check.due("size(0)", 0, () -> x.size(0));
    }

    private static void whatIsAChange() {
        check.says("Each doorstep that shall belong to another milkman than now "
            + "(or belongs to nobody now) is a change");
        DoorstepRounds moved = Dairies.owned(row(0, 1), row(1, 2), row(0, 0));
        check.due("plan() of one that moves", 1, () -> moved.plan());
        DoorstepRounds given = Dairies.owned(row(0, 1), row(1, 2), row(N, N));
        check.due("plan() of two that are nobody's", 2, () -> given.plan());
        DoorstepRounds both = twoGiveUp();
        check.due("plan() of two that move, and one that is nobody's", 3, () -> both.plan());
        DoorstepRounds none = Dairies.owned(row(0, 1), row(1, 2), row(1, 0));
        check.due("plan() of none", 0, () -> none.plan());
        DoorstepRounds all = Dairies.fresh(20, 6);
        check.due("plan() of all", 20, () -> all.plan());
    }

    private static void alwaysTwoSteps() {
        check.says("The handover has always two steps");
        steps("one that is nobody's", Dairies.fresh(1, 1));
        steps("one that moves", Dairies.owned(row(0, 1), row(1, 2), row(0, 0)));
        steps("both", twoGiveUp());
    }

    private static void steps(String what, DoorstepRounds x) {
        x.plan();
        check.due(what + ", handover() before the first step", 1, () -> x.handover());
        x.handOver();
        check.due(what + ", handover() before the second step", 2, () -> x.handover());
        x.handOver();
        check.due(what + ", handover() behind it", 0, () -> x.handover());
        check.dueThrow(what + ", a third handOver()", x, IllegalStateException.class, () -> x.handOver());
    }

    private static void firstStepGivesUp() {
        check.says("in the first one, each change whose doorstep belongs to somebody is given up: "
            + "it belongs to nobody then");
        DoorstepRounds x = twoGiveUp();
        x.plan();
        check.due("handOver()", 2, () -> x.handOver());
        check.owners("given up", x, -1, -1, 0, 1, 0, 1, 0, 1, -1);
        check.sizes("given up", x, 3, 3, 0);
        check.due("load(0)", 9, () -> x.load(0));
        check.planned("the plan stays", x, 2, 2, 0, 1, 0, 1, 0, 1, 2);
    }

    private static void noneToGiveUp() {
        check.says("(there can be none)");
        DoorstepRounds x = Dairies.owned(row(0, 1), row(1, 2, 3), row(0, 1, N));
        check.due("plan()", 1, () -> x.plan());
        check.due("handOver() gives up none", 0, () -> x.handOver());
        check.due("handover() goes on all the same", 2, () -> x.handover());
        check.owners("none is given up", x, 0, 1, -1);
        check.due("changed() is as before", 2, () -> x.changed());
        check.due("handOver() takes over", 1, () -> x.handOver());
        check.owners("taken over", x, 0, 1, 0);
    }

    private static void secondStepTakesOver() {
        check.says("In the second one, each change is taken over: it belongs to the milkman of the plan. "
            + "Then the handover is over");
        DoorstepRounds x = twoGiveUp();
        x.plan();
        x.handOver();
        check.due("handOver()", 3, () -> x.handOver());
        check.owners("taken over", x, 2, 2, 0, 1, 0, 1, 0, 1, 2);
        check.due("handover()", 0, () -> x.handover());
        check.due("changesToCome()", 0, () -> x.changesToCome());
        check.sizes("taken over", x, 3, 3, 3);
    }

    private static void refusedInHandover() {
        check.says("While there is a handover, no doorstep and no milkman can be added or removed, "
            + "and no other plan can be made");
        refusesAll("before the first step", Dairies.beforeFirstStep());
        refusesAll("before the second step", Dairies.beforeSecondStep());
    }

    private static void refusesAll(String what, DoorstepRounds x) {
        check.dueThrow(what + ", addDoorstep(5)", x, IllegalStateException.class, () -> x.addDoorstep(5));
        check.dueThrow(what + ", removeDoorstep(0)", x, IllegalStateException.class, () -> x.removeDoorstep(0));
        check.dueThrow(what + ", removeDoorstep(2)", x, IllegalStateException.class, () -> x.removeDoorstep(2));
        check.dueThrow(what + ", come(5)", x, IllegalStateException.class, () -> x.come(5));
        check.dueThrow(what + ", leave(1)", x, IllegalStateException.class, () -> x.leave(1));
        check.dueThrow(what + ", plan()", x, IllegalStateException.class, () -> x.plan());
        for (String part : new String[] {"+5", "-0", "-2", "c5", "l1", "p"}) {
            Check.write(x, part);
            check.due(what + ", run() of " + part, 0, () -> x.run());
        }
        check.due(what + ", deliver() is not refused", 9 + (x.owner(0) == 0 ? 1 : 0), () -> x.deliver());
        check.due(what + ", setPints(0, 8) is not refused", 1, () -> x.setPints(0, 8));
    }

    private static void allowedBehindHandover() {
        check.says("Then the handover is over (and nothing is refused any more)");
        for (DoorstepRounds x : new DoorstepRounds[] {Dairies.behindHandover(), Dairies.calledOff()}) {
            check.due("addDoorstep(5)", 5, () -> x.addDoorstep(5));
            check.due("removeDoorstep(5)", -1, () -> x.removeDoorstep(5));
            check.due("come(5)", 3, () -> x.come(5));
            check.due("leave(5)", 0, () -> x.leave(5));
            x.addDoorstep(5);
            check.dueTrue("plan() makes another plan", x.plan() > 0 && x.handover() == 1);
        }
    }

    private static void callOffBeforeFirstStep() {
        check.says("but the handover can be called off (before its first step)");
        DoorstepRounds x = twoGiveUp();
        x.plan();
        check.due("callOff()", 0, () -> x.callOff());
        check.due("handover()", 0, () -> x.handover());
        check.owners("nothing was given up", x, 0, 1, 0, 1, 0, 1, 0, 1, -1);
        check.planned("no plan is left", x, 0, 1, 0, 1, 0, 1, 0, 1, -1);
        check.due("plan() again", 3, () -> x.plan());
    }

    private static void callOffBehindFirstStep() {
        check.says("then the doorsteps that were given up in it belong to the milkmen to whom they belonged before");
        DoorstepRounds x = twoGiveUp();
        x.plan();
        x.handOver();
        check.due("callOff()", 2, () -> x.callOff());
        check.due("handover()", 0, () -> x.handover());
        check.owners("each one has its milkman back", x, 0, 1, 0, 1, 0, 1, 0, 1, -1);
        check.sizes("each one has its milkman back", x, 4, 4, 0);
        DoorstepRounds y = Dairies.fresh(3, 2);
        y.plan();
        y.handOver();
        check.due("callOff() when none was given up", 0, () -> y.callOff());
        check.owners("they stay nobody's", y, -1, -1, -1);
    }

    private static void callOffOfSecondHandover() {
        check.says("the doorsteps that were given up in it (and not those of another handover)");
        DoorstepRounds x = Dairies.behindHandover();
        // 1 has 0 and 4 now, and leaves: in the second handover nobody gives up anything
        x.leave(1);
        check.due("plan()", 2, () -> x.plan());
        check.due("handOver()", 0, () -> x.handOver());
        check.due("callOff()", 0, () -> x.callOff());
        check.owners("as before the second handover", x, -1, 0, 0, 0, -1);
        x.come(2);
        check.due("plan() of a third one", 2, () -> x.plan());
        check.due("callOff() of the third one", 0, () -> x.callOff());
        check.owners("as before the third handover", x, -1, 0, 0, 0, -1);
    }

    private static void noHandoverWithoutChanges() {
        check.says("begins a handover, unless the plan has no changes (then there is no handover)");
        DoorstepRounds even = Dairies.freshAndShared(6, 3);
        check.due("plan() of even rounds", 0, () -> even.plan());
        check.due("handover()", 0, () -> even.handover());
        check.dueThrow("handOver()", even, IllegalStateException.class, () -> even.handOver());
        check.dueThrow("callOff()", even, IllegalStateException.class, () -> even.callOff());
        check.due("addDoorstep(1)", 6, () -> even.addDoorstep(1));
        check.due("plan() of one change", 1, () -> even.plan());
        check.due("handover()", 1, () -> even.handover());
        DoorstepRounds empty = Dairies.fresh(0, 6);
        check.due("plan() of no doorsteps", 0, () -> empty.plan());
        check.due("handover()", 0, () -> empty.handover());
        check.due("plan() of no doorsteps again", 0, () -> empty.plan());
    }

    private static void planRefused() {
        check.says("Throws IllegalStateException if there is a handover, or nobody is at work (plan)");
        DoorstepRounds none = Dairies.fresh(3, 0);
        check.dueThrow("plan() with nobody at work", none, IllegalStateException.class, () -> none.plan());
        DoorstepRounds empty = new DoorstepRounds();
        check.dueThrow("plan() with nothing at all", empty, IllegalStateException.class, () -> empty.plan());
        DoorstepRounds left = Dairies.freshAndShared(2, 1);
        left.leave(0);
        check.dueThrow("plan() when the last one has left", left, IllegalStateException.class, () -> left.plan());
        DoorstepRounds first = Dairies.beforeFirstStep();
        check.dueThrow("plan() before the first step", first, IllegalStateException.class, () -> first.plan());
        DoorstepRounds second = Dairies.beforeSecondStep();
        check.dueThrow("plan() before the second step", second, IllegalStateException.class, () -> second.plan());
        check.planned("the plan is the one before", second, 1, 0, 0, 0, 1);
    }

    private static void handOverReturns() {
        check.says("Returns the number of doorsteps that are given up, or taken over");
        DoorstepRounds x = Dairies.freshAndShared(20, 1);
        x.come(5);
        x.plan();
        check.due("handOver() of half of them", 10, () -> x.handOver());
        check.due("handOver() of half of them", 10, () -> x.handOver());
        DoorstepRounds y = Dairies.fresh(20, 6);
        y.plan();
        check.due("handOver() of none", 0, () -> y.handOver());
        check.due("handOver() of all", 20, () -> y.handOver());
        DoorstepRounds z = twoGiveUp();
        z.plan();
        check.due("handOver() of those with a milkman", 2, () -> z.handOver());
        check.due("handOver() of those, and nobody's", 3, () -> z.handOver());
    }

    private static void removedTakesNoPart() {
        check.says("Returns the number of doorsteps that are given up, or taken over (and of none that was removed)");
        DoorstepRounds x = Dairies.freshAndShared(4, 1);
        x.setPints(3, 9);
        x.come(1);
        check.due("plan() of four", 2, () -> x.plan());
        check.planned("of four", x, 0, 1, 1, 0);
        x.callOff();
        x.removeDoorstep(3);
        check.due("changesToCome() of three", 1, () -> x.changesToCome());
        check.due("plan() of three", 1, () -> x.plan());
        check.planned("of three", x, 0, 0, 1);
        check.due("handOver() of the first step", 1, () -> x.handOver());
        check.due("handOver() of the second step", 1, () -> x.handOver());
        check.due("changed()", 5, () -> x.changed());
        check.sizes("of three", x, 2, 1);
        removedAtTheEnd();
        removedOfTwenty();
    }

    private static void removedAtTheEnd() {
        DoorstepRounds x = Dairies.freshAndShared(4, 1);
        x.come(1);
        x.plan();
        check.planned("of four", x, 0, 0, 1, 1);
        x.callOff();
        x.removeDoorstep(3);
        x.plan();
        check.due("handOver() without the one that shall not move any more", 1, () -> x.handOver());
        check.due("callOff()", 1, () -> x.callOff());
        x.plan();
        x.handOver();
        check.due("handOver() of the second step", 1, () -> x.handOver());
        check.due("changed()", 5, () -> x.changed());
    }

    private static void removedOfTwenty() {
        DoorstepRounds x = Dairies.fresh(20, 1);
        x.setPints(19, 9);
        x.removeDoorstep(19);
        check.due("plan() of 19", 19, () -> x.plan());
        check.planned("of 19", x, Dairies.same(19, 0));
        check.due("handOver() of the first step", 0, () -> x.handOver());
        check.due("handOver() of the second step", 19, () -> x.handOver());
        check.due("load(0)", 19, () -> x.load(0));
    }

    private static void handOverWithoutHandover() {
        check.says("Throws IllegalStateException if there is no handover (handOver)");
        refusedWithoutHandover("handOver()", x -> x.handOver());
    }

    private static void callOffWithoutHandover() {
        check.says("Throws IllegalStateException if there is no handover (callOff)");
        refusedWithoutHandover("callOff()", x -> x.callOff());
    }

    private static void refusedWithoutHandover(String call, ToLongFunction<DoorstepRounds> made) {
        DoorstepRounds undone = Dairies.beforeFirstStep();
        undone.undo();
        DoorstepRounds even = Dairies.freshAndShared(6, 3);
        even.plan();
        DoorstepRounds[] all = {new DoorstepRounds(), Dairies.fresh(3, 2), Dairies.behindHandover(),
            Dairies.calledOff(), undone, even};
        for (int i = 0; i < all.length; i++) {
            DoorstepRounds x = all[i];
            check.dueThrow(call + " of dairy " + i, x, IllegalStateException.class, () -> made.applyAsLong(x));
        }
    }

    private static void callOffReturns() {
        check.says("Returns the number of doorsteps that get their milkman back");
        DoorstepRounds half = Dairies.freshAndShared(20, 1);
        half.come(5);
        half.plan();
        half.handOver();
        check.due("callOff() of half of them", 10, () -> half.callOff());
        check.due("size(0)", 20, () -> half.size(0));
        DoorstepRounds first = Dairies.beforeFirstStep();
        check.due("callOff() before the first step", 0, () -> first.callOff());
        DoorstepRounds second = Dairies.beforeSecondStep();
        check.due("callOff() without the one that was nobody's", 1, () -> second.callOff());
    }

    private static void handoverReturns() {
        check.says("Returns 0 if there is no handover, 1 before its first step, and 2 before its second step");
        check.due("of a new object", 0, () -> new DoorstepRounds().handover());
        check.due("before the first step", 1, () -> Dairies.beforeFirstStep().handover());
        check.due("before the second step", 2, () -> Dairies.beforeSecondStep().handover());
        check.due("behind it", 0, () -> Dairies.behindHandover().handover());
        check.due("behind callOff()", 0, () -> Dairies.calledOff().handover());
    }

    private static void plannedReturns() {
        check.says("Returns to whom a doorstep shall belong by the plan of the handover");
        check.planned("before the first step", Dairies.beforeFirstStep(), 1, 0, 0, 0, 1);
        check.planned("before the second step", Dairies.beforeSecondStep(), 1, 0, 0, 0, 1);
    }

    private static void plannedWithoutHandover() {
        check.says("if there is no handover, to whom it belongs");
        check.planned("behind it", Dairies.behindHandover(), 1, 0, 0, 0, 1);
        check.planned("behind callOff()", Dairies.calledOff(), 0, 0, 0, 0, -1);
        DoorstepRounds x = Dairies.behindHandover();
        x.leave(0);
        check.planned("when 0 has left", x, 1, -1, -1, -1, 1);
        DoorstepRounds even = Dairies.freshAndShared(2, 2);
        even.plan();
        check.planned("behind a plan without changes", even, 0, 1);
    }

    private static void plannedRefused() {
        check.says("Throws IndexOutOfBoundsException if there is no such doorstep (planned)");
        check.refusesNoSuchDoorstep("planned", (x, doorstep) -> x.planned(doorstep));
        DoorstepRounds full = Dairies.fresh(20, 1);
        full.plan();
        check.due("planned(19) of 20", 0, () -> full.planned(19));
        check.dueThrow("planned(20) in a handover", full, IndexOutOfBoundsException.class, () -> full.planned(20));
    }

    private static void changedInAllHandovers() {
        check.says("Returns the number of changes that were taken over so far, in all handovers");
        DoorstepRounds x = Dairies.freshAndShared(20, 1);
        check.due("changed() behind the first one", 20, () -> x.changed());
        x.come(1);
        Check.share(x);
        check.due("changed() behind the second one", 30, () -> x.changed());
        x.leave(0);
        check.due("changed() does not count a milkman who leaves", 30, () -> x.changed());
        Check.share(x);
        check.due("changed() behind the third one", 40, () -> x.changed());
        check.due("plan() without changes", 0, () -> x.plan());
        check.due("changed() behind it", 40, () -> x.changed());
    }

    private static void changedCountsTakenOver() {
        check.says("the number of changes that were taken over (not those given up, planned or called off)");
        check.due("of a new object", 0, () -> new DoorstepRounds().changed());
        check.due("before the first step", 4, () -> Dairies.beforeFirstStep().changed());
        check.due("before the second step", 4, () -> Dairies.beforeSecondStep().changed());
        check.due("behind it", 6, () -> Dairies.behindHandover().changed());
        check.due("behind callOff()", 4, () -> Dairies.calledOff().changed());
    }

    private static void planStaysWhenPintsChange() {
        check.says("(also during a handover; the plan stays)");
        DoorstepRounds x = Dairies.beforeFirstStep();
        // 0 would keep 0, 1 and 2 now, and give up 3
        x.setPints(0, 9);
        x.setPints(3, 1);
        check.due("ifPlanned(3)", 1, () -> x.ifPlanned(3));
        check.planned("before the first step", x, 1, 0, 0, 0, 1);
        check.due("handOver() by the plan", 1, () -> x.handOver());
        check.owners("given up by the plan", x, -1, 0, 0, 0, -1);
        x.setPints(4, 1);
        check.due("handOver() by the plan", 2, () -> x.handOver());
        check.owners("taken over by the plan", x, 1, 0, 0, 0, 1);
    }
}
