import java.util.function.Consumer;
import java.util.function.Supplier;

/** 'Undo' and promises 31 and 32: a test for each sentence that names an edge. */
public final class UndoEdgesTest {
    private static final Check check = new Check("UndoEdgesTest");

    public static void main(String[] args) {
        check.each(
            UndoEdgesTest::undoableSaveFromBefore, UndoEdgesTest::nothingElseSaves,
            UndoEdgesTest::evenIfNothingChanges, UndoEdgesTest::throwingSavesNothing, UndoEdgesTest::atMostSix,
            UndoEdgesTest::oldestIsDiscarded, UndoEdgesTest::everythingExceptBuffer,
            UndoEdgesTest::everythingExceptSavedStates, UndoEdgesTest::restoresTheLastOne,
            UndoEdgesTest::restoresAPlan, UndoEdgesTest::restoresWhatWasGivenUp,
            UndoEdgesTest::returnsStatesLeft, UndoEdgesTest::noStateSaved, UndoEdgesTest::zeroToSix,
            UndoEdgesTest::manyCalls);
        check.end();
    }

    private interface Named {
        void call(String name, Supplier<DoorstepRounds> maker, Consumer<DoorstepRounds> made);
    }

    /** Each method that is marked "Undoable", in a dairy in which it does not throw. */
    private static void eachUndoable(Named test) {
        test.call("addDoorstep(9)", DoorstepRounds::new, x -> x.addDoorstep(9));
        test.call("removeDoorstep(0)", Dairies::behindHandover, x -> x.removeDoorstep(0));
        test.call("setPints(0, 9)", () -> Dairies.fresh(1, 0), x -> x.setPints(0, 9));
        test.call("setPints(0, 9) in a handover", Dairies::beforeSecondStep, x -> x.setPints(0, 9));
        test.call("come(5)", DoorstepRounds::new, x -> x.come(5));
        test.call("leave(0)", Dairies::behindHandover, x -> x.leave(0));
        test.call("plan()", () -> Dairies.fresh(3, 2), x -> x.plan());
        test.call("handOver(), the first", Dairies::beforeFirstStep, x -> x.handOver());
        test.call("handOver(), the second", Dairies::beforeSecondStep, x -> x.handOver());
        test.call("callOff(), the first", Dairies::beforeFirstStep, x -> x.callOff());
        test.call("callOff(), the second", Dairies::beforeSecondStep, x -> x.callOff());
        test.call("deliver()", Dairies::beforeSecondStep, x -> x.deliver());
        test.call("run()", () -> written(new DoorstepRounds(), "+1;c0;p;h;h;d"), x -> x.run());
    }

    private static DoorstepRounds written(DoorstepRounds x, String text) {
        Check.write(x, text);
        return x;
    }

    private static void undoableSaveFromBefore() {
        check.says("Each method that is marked \"Undoable\" saves the state from before the call");
        eachUndoable((name, maker, made) -> {
            DoorstepRounds before = maker.get();
            DoorstepRounds x = maker.get();
            made.accept(x);
            check.dueTrue(name + " changes something", x.digest() != before.digest());
            check.due(name + ", savedStates()", Math.min(6, before.savedStates() + 1), () -> x.savedStates());
            check.due(name + ", undo()", Math.min(5, before.savedStates()), () -> x.undo());
            check.due(name + ", digest() behind undo()", before.digest(), () -> x.digest());
            check.due(name + ", handover() behind undo()", before.handover(), () -> x.handover());
        });
    }

    private static void nothingElseSaves() {
        check.says("Each method that is marked \"Undoable\" (and no other one)");
        DoorstepRounds x = Dairies.fresh(1, 1);
        saves("append('d')", x, () -> x.append('d'));
        saves("firstError()", x, () -> x.firstError());
        saves("clearText()", x, () -> x.clearText());
        saves("doorsteps()", x, () -> x.doorsteps());
        saves("pints(0)", x, () -> x.pints(0));
        saves("owner(0)", x, () -> x.owner(0));
        saves("isAtWork(0)", x, () -> x.isAtWork(0));
        saves("size(0)", x, () -> x.size(0));
        saves("load(0)", x, () -> x.load(0));
        saves("handover()", x, () -> x.handover());
        saves("planned(0)", x, () -> x.planned(0));
        saves("changed()", x, () -> x.changed());
        saves("delivered()", x, () -> x.delivered());
        saves("misses()", x, () -> x.misses());
        saves("ifPlanned(0)", x, () -> x.ifPlanned(0));
        saves("reason(0)", x, () -> x.reason(0));
        saves("changesToCome()", x, () -> x.changesToCome());
        saves("changesIf(0)", x, () -> x.changesIf(0));
        saves("unevenness()", x, () -> x.unevenness());
        saves("savedStates()", x, () -> x.savedStates());
        saves("digest()", x, () -> x.digest());
        check.due("undo() of the last undoable one", 1, () -> x.undo());
        check.due("isAtWork(0)", 0, () -> x.isAtWork(0) ? 1 : 0);
    }

    private static void saves(String call, DoorstepRounds x, Runnable made) {
        made.run();
        check.due("savedStates() behind " + call, 2, () -> x.savedStates());
    }

    private static void evenIfNothingChanges() {
        check.says("even if nothing changes");
        unchanged("setPints(0, 1)", Dairies.fresh(1, 0), x -> x.setPints(0, 1), 2);
        unchanged("plan() of no doorsteps", Dairies.fresh(0, 1), x -> x.plan(), 2);
        unchanged("plan() of even rounds", Dairies.freshAndShared(1, 1), x -> x.plan(), 6);
        unchanged("deliver() of no doorsteps", new DoorstepRounds(), x -> x.deliver(), 1);
        unchanged("run() without a part done", written(new DoorstepRounds(), "h"), x -> x.run(), 1);
        unchanged("run() of a plan of even rounds", written(Dairies.fresh(0, 1), "p"), x -> x.run(), 2);
        unchanged("run() of come and leave", written(new DoorstepRounds(), "c0;l0"), x -> x.run(), 1);
    }

    private static void unchanged(String call, DoorstepRounds x, Consumer<DoorstepRounds> made, int saved) {
        long digest = x.digest();
        made.accept(x);
        check.due(call + ", digest()", digest, () -> x.digest());
        check.due(call + ", savedStates()", saved, () -> x.savedStates());
        check.due(call + ", undo()", saved - 1, () -> x.undo());
        check.due(call + ", digest() behind undo()", digest, () -> x.digest());
    }

    private static void throwingSavesNothing() {
        check.says("saves the state from before the call if it does not throw an exception");
        DoorstepRounds x = Dairies.fresh(1, 0);
        check.dueThrow("addDoorstep(0)", x, IllegalArgumentException.class, () -> x.addDoorstep(0));
        check.dueThrow("removeDoorstep(1)", x, IndexOutOfBoundsException.class, () -> x.removeDoorstep(1));
        check.dueThrow("setPints(0, 0)", x, IllegalArgumentException.class, () -> x.setPints(0, 0));
        check.dueThrow("setPints(1, 1)", x, IndexOutOfBoundsException.class, () -> x.setPints(1, 1));
        check.dueThrow("come(6)", x, IndexOutOfBoundsException.class, () -> x.come(6));
        check.dueThrow("leave(0)", x, IllegalStateException.class, () -> x.leave(0));
        check.dueThrow("plan()", x, IllegalStateException.class, () -> x.plan());
        check.dueThrow("handOver()", x, IllegalStateException.class, () -> x.handOver());
        check.dueThrow("callOff()", x, IllegalStateException.class, () -> x.callOff());
        check.dueThrow("run()", x, IllegalArgumentException.class, () -> x.run());
        check.due("savedStates()", 1, () -> x.savedStates());
        check.due("undo() of addDoorstep", 0, () -> x.undo());
        check.due("doorsteps()", 0, () -> x.doorsteps());
    }

    /** A dairy in which the n-th call added a doorstep with n % 9 + 1 pints. */
    private static DoorstepRounds calls(int count) {
        DoorstepRounds x = new DoorstepRounds();
        for (int i = 0; i < count; i++) {
            x.addDoorstep(i % 9 + 1);
        }
        return x;
    }

    private static void atMostSix() {
        check.says("At most 6 states are saved");
        for (int count = 0; count <= 20; count++) {
            DoorstepRounds x = calls(count);
            check.due("savedStates() behind " + count, Math.min(6, count), () -> x.savedStates());
        }
    }

    private static void oldestIsDiscarded() {
        check.says("when one more is saved, the oldest one is discarded");
        for (int count : new int[] {5, 6, 7, 8, 12, 13, 20}) {
            DoorstepRounds x = calls(count);
            int left = Math.min(6, count);
            for (int i = 1; i <= left; i++) {
                int undone = i;
                check.due("undo() " + i + " behind " + count, left - i, () -> x.undo());
                check.due("doorsteps() behind it", count - undone, () -> x.doorsteps());
            }
            check.dueThrow("one more undo() behind " + count, x, IllegalStateException.class, () -> x.undo());
        }
        DoorstepRounds mixed = calls(7);
        mixed.undo();
        mixed.undo();
        mixed.come(0);
        mixed.come(1);
        mixed.come(2);
        check.due("savedStates() of six, two less and three more", 6, () -> mixed.savedStates());
        for (int i = 0; i < 6; i++) {
            mixed.undo();
        }
        check.due("doorsteps() of the oldest", 2, () -> mixed.doorsteps());
    }

    private static void everythingExceptBuffer() {
        check.says("The state consists of everything except the buffer");
        DoorstepRounds x = Dairies.fresh(1, 1);
        Check.write(x, "d;");
        x.undo();
        check.due("append('d') to what was written before undo()", 3, () -> x.append('d'));
        check.due("run()", 2, () -> x.run());
        check.due("misses()", 2, () -> x.misses());
        x.undo();
        check.due("clearText(), undo() of run() writes nothing again", 0, () -> x.clearText());
        Check.write(x, "p");
        long digest = x.digest();
        x.clearText();
        check.due("digest() without the buffer", digest, () -> x.digest());
        Check.write(x, "+1;q");
        x.addDoorstep(3);
        x.undo();
        check.due("firstError() behind undo()", 3, () -> x.firstError());
    }

    private static void everythingExceptSavedStates() {
        check.says("and the saved states");
        DoorstepRounds x = calls(3);
        check.due("undo()", 2, () -> x.undo());
        check.due("savedStates(), not those of the state", 2, () -> x.savedStates());
        check.due("undo() again", 1, () -> x.undo());
        check.due("doorsteps(), undo() was not saved", 1, () -> x.doorsteps());
        DoorstepRounds y = calls(8);
        y.undo();
        check.due("savedStates() behind one that was discarded", 5, () -> y.savedStates());
    }

    private static void restoresTheLastOne() {
        check.says("Restores the state that was saved last, and removes it from the saved states");
        new Twins(check).same("undo() of a handover's second step", () -> undone(Dairies.behindHandover(), 1),
            () -> discarded(Dairies.beforeSecondStep()));
        DoorstepRounds x = Dairies.behindHandover();
        x.deliver();
        x.leave(0);
        x.undo();
        check.due("delivered()", 15, () -> x.delivered());
        check.owners("0 is back", x, 1, 0, 0, 0, 1);
        check.due("isAtWork(0)", 1, () -> x.isAtWork(0) ? 1 : 0);
        x.undo();
        check.due("delivered()", 0, () -> x.delivered());
        x.undo();
        check.due("changed()", 4, () -> x.changed());
        check.owners("before the second step", x, -1, 0, 0, 0, -1);
        x.undo();
        check.due("handover()", 1, () -> x.handover());
        check.owners("before the first step", x, 0, 0, 0, 0, -1);
        x.undo();
        check.due("handover()", 0, () -> x.handover());
        x.undo();
        check.due("doorsteps()", 4, () -> x.doorsteps());
        check.dueThrow("a seventh undo()", x, IllegalStateException.class, () -> x.undo());
    }

    private static DoorstepRounds undone(DoorstepRounds x, int times) {
        for (int i = 0; i < times; i++) {
            x.undo();
        }
        return x;
    }

    /** One more state was saved and restored, so that the oldest of six is gone. */
    private static DoorstepRounds discarded(DoorstepRounds x) {
        x.deliver();
        x.undo();
        return x;
    }

    private static void restoresAPlan() {
        check.says("Restores the state that was saved last (with its plan, and what was given up in it)");
        DoorstepRounds x = Dairies.beforeSecondStep();
        x.callOff();
        x.leave(1);
        x.come(5);
        x.plan();
        check.planned("another plan", x, 5, 0, 0, 0, 5);
        x.handOver();
        undone(x, 5);
        check.due("handover()", 2, () -> x.handover());
        check.planned("the plan of before", x, 1, 0, 0, 0, 1);
        check.due("callOff()", 1, () -> x.callOff());
        check.owners("to whom they belonged before", x, 0, 0, 0, 0, -1);
        x.undo();
        check.due("handOver()", 2, () -> x.handOver());
        check.owners("by the plan of before", x, 1, 0, 0, 0, 1);
    }

    private static void restoresWhatWasGivenUp() {
        check.says("Restores the state that was saved last (with those to whom the doorsteps belonged before)");
        DoorstepRounds x = Dairies.beforeSecondStep();
        x.callOff();
        x.leave(0);
        check.due("plan() when all are nobody's", 5, () -> x.plan());
        undone(x, 3);
        check.due("callOff()", 1, () -> x.callOff());
        check.owners("to whom they belonged before", x, 0, 0, 0, 0, -1);
        x.undo();
        x.undo();
        check.due("handOver() of the first step", 1, () -> x.handOver());
        check.due("callOff() again", 1, () -> x.callOff());
        check.owners("to whom they belonged before", x, 0, 0, 0, 0, -1);
    }

    private static void returnsStatesLeft() {
        check.says("Returns the number of saved states that are left");
        DoorstepRounds x = calls(9);
        for (int left = 5; left >= 0; left--) {
            check.due("undo()", left, () -> x.undo());
        }
        x.deliver();
        check.due("undo() of one", 0, () -> x.undo());
    }

    private static void noStateSaved() {
        check.says("Throws IllegalStateException if no state is saved");
        DoorstepRounds x = new DoorstepRounds();
        check.dueThrow("undo() of a new object", x, IllegalStateException.class, () -> x.undo());
        x.append('d');
        check.dueThrow("undo() of append()", x, IllegalStateException.class, () -> x.undo());
        x.run();
        check.due("undo() of run()", 0, () -> x.undo());
        check.dueThrow("undo() again", x, IllegalStateException.class, () -> x.undo());
        x.come(0);
        x.undo();
        check.dueThrow("undo() again", x, IllegalStateException.class, () -> x.undo());
    }

    private static void zeroToSix() {
        check.says("Returns the number of saved states, 0 to 6");
        DoorstepRounds x = new DoorstepRounds();
        check.due("savedStates() of a new object", 0, () -> x.savedStates());
        for (int i = 1; i <= 8; i++) {
            x.deliver();
            check.due("savedStates() behind " + i, Math.min(6, i), () -> x.savedStates());
        }
        for (int left = 5; left >= 0; left--) {
            x.undo();
            check.due("savedStates() behind undo()", left, () -> x.savedStates());
        }
    }

    private static void manyCalls() {
        check.says("An object is used for at most 512 calls after it has been made");
        DoorstepRounds x = Dairies.freshAndShared(20, 6);
        // these were 29 calls, and 9 follow behind the deliveries
        int deliveries = 512 - 29 - 9;
        for (int i = 0; i < deliveries; i++) {
            x.deliver();
        }
        check.due("savedStates()", 6, () -> x.savedStates());
        check.due("delivered()", 20 * deliveries, () -> x.delivered());
        for (int left = 5; left >= 0; left--) {
            check.due("undo()", left, () -> x.undo());
        }
        check.due("delivered() of the last call", 20 * (deliveries - 6), () -> x.delivered());
    }
}
