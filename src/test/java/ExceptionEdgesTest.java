import java.util.function.Supplier;
import java.util.function.ToLongFunction;

/** 'Exceptions': a call that throws changes nothing, and which of several exceptions is thrown. */
public final class ExceptionEdgesTest {
    private static final Check check = new Check("ExceptionEdgesTest");
    private static final Twins twins = new Twins(check);
    private static final Class<IndexOutOfBoundsException> INDEX = IndexOutOfBoundsException.class;
    private static final Class<IllegalArgumentException> ARGUMENT = IllegalArgumentException.class;
    private static final Class<IllegalStateException> STATE = IllegalStateException.class;

    public static void main(String[] args) {
        check.each(
            ExceptionEdgesTest::changesNothingInAnyState, ExceptionEdgesTest::changesNothingInHandover,
            ExceptionEdgesTest::changesNothingWithoutHandover,
            ExceptionEdgesTest::changesNothingWithNobodyAtWork, ExceptionEdgesTest::changesNothingWhenFull,
            ExceptionEdgesTest::changesNothingInBuffer, ExceptionEdgesTest::listedFirstIsThrown);
        check.end();
    }

    private static void refused(String call, Supplier<DoorstepRounds> maker, Class<? extends RuntimeException> want,
            ToLongFunction<DoorstepRounds> made) {
        twins.refused(call, maker, want, made);
    }

    private static DoorstepRounds written(DoorstepRounds x, String text) {
        Check.write(x, text);
        return x;
    }

    private static void changesNothingInAnyState() {
        check.says("A call that throws an exception changes nothing (wrong numbers)");
        wrongNumbers(DoorstepRounds::new, 0);
        wrongNumbers(Dairies::beforeFirstStep, 5);
        wrongNumbers(Dairies::beforeSecondStep, 5);
        wrongNumbers(Dairies::behindHandover, 5);
        wrongNumbers(() -> written(Dairies.freshAndShared(20, 6), "+1;c"), 20);
    }

    private static void wrongNumbers(Supplier<DoorstepRounds> maker, int doorsteps) {
        for (int wrong : new int[] {-1, doorsteps, Integer.MIN_VALUE, Integer.MAX_VALUE}) {
            String end = "(" + wrong + ") of " + doorsteps;
            refused("removeDoorstep" + end, maker, INDEX, x -> x.removeDoorstep(wrong));
            refused("setPints" + end, maker, INDEX, x -> x.setPints(wrong, 1));
            refused("pints" + end, maker, INDEX, x -> x.pints(wrong));
            refused("owner" + end, maker, INDEX, x -> x.owner(wrong));
            refused("planned" + end, maker, INDEX, x -> x.planned(wrong));
            refused("ifPlanned" + end, maker, INDEX, x -> x.ifPlanned(wrong));
            refused("reason" + end, maker, INDEX, x -> x.reason(wrong));
        }
        for (int wrong : new int[] {-1, 6, Integer.MIN_VALUE, Integer.MAX_VALUE}) {
            String end = "(" + wrong + ")";
            refused("come" + end, maker, INDEX, x -> x.come(wrong));
            refused("leave" + end, maker, INDEX, x -> x.leave(wrong));
            refused("isAtWork" + end, maker, INDEX, x -> x.isAtWork(wrong) ? 1 : 0);
            refused("size" + end, maker, INDEX, x -> x.size(wrong));
            refused("load" + end, maker, INDEX, x -> x.load(wrong));
            refused("changesIf" + end, maker, INDEX, x -> x.changesIf(wrong));
        }
        for (int wrong : new int[] {0, 10, Integer.MIN_VALUE, Integer.MAX_VALUE}) {
            refused("addDoorstep(" + wrong + ")", maker, ARGUMENT, x -> x.addDoorstep(wrong));
            if (doorsteps > 0) {
                refused("setPints(0, " + wrong + ")", maker, ARGUMENT, x -> x.setPints(0, wrong));
            }
        }
        for (int wrong : new int[] {32, 127, Integer.MIN_VALUE, Integer.MAX_VALUE}) {
            refused("append(" + wrong + ")", maker, ARGUMENT, x -> x.append(wrong));
        }
        refused("run() of no complete text", maker, ARGUMENT, x -> x.run());
    }

    private static void changesNothingInHandover() {
        check.says("A call that throws an exception changes nothing (in a handover)");
        for (int step = 1; step <= 2; step++) {
            boolean first = step == 1;
            Supplier<DoorstepRounds> maker = () -> first ? Dairies.beforeFirstStep() : Dairies.beforeSecondStep();
            refused("addDoorstep(1)", maker, STATE, x -> x.addDoorstep(1));
            refused("removeDoorstep(0)", maker, STATE, x -> x.removeDoorstep(0));
            refused("removeDoorstep(4)", maker, STATE, x -> x.removeDoorstep(4));
            refused("come(2)", maker, STATE, x -> x.come(2));
            refused("come(0)", maker, STATE, x -> x.come(0));
            refused("leave(0)", maker, STATE, x -> x.leave(0));
            refused("leave(2)", maker, STATE, x -> x.leave(2));
            refused("plan()", maker, STATE, x -> x.plan());
        }
    }

    private static void changesNothingWithoutHandover() {
        check.says("A call that throws an exception changes nothing (without a handover)");
        for (int kind = 0; kind < 3; kind++) {
            int number = kind;
            Supplier<DoorstepRounds> maker = () -> number == 0 ? Dairies.behindHandover()
                : number == 1 ? Dairies.calledOff() : Dairies.fresh(3, 2);
            refused("handOver()", maker, STATE, x -> x.handOver());
            refused("callOff()", maker, STATE, x -> x.callOff());
            refused("come(0)", maker, STATE, x -> x.come(0));
            refused("leave(5)", maker, STATE, x -> x.leave(5));
        }
    }

    private static void changesNothingWithNobodyAtWork() {
        check.says("A call that throws an exception changes nothing (with nobody at work)");
        refused("plan() of nothing", DoorstepRounds::new, STATE, x -> x.plan());
        refused("plan() of 20 doorsteps", () -> Dairies.fresh(20, 0), STATE, x -> x.plan());
        refused("leave(0)", () -> Dairies.fresh(20, 0), STATE, x -> x.leave(0));
        refused("undo()", DoorstepRounds::new, STATE, x -> x.undo());
        refused("undo() with a text in the buffer", () -> written(new DoorstepRounds(), "p;h"), STATE, x -> x.undo());
    }

    private static void changesNothingWhenFull() {
        check.says("A call that throws an exception changes nothing (when there are 20 doorsteps)");
        refused("addDoorstep(9)", () -> Dairies.fresh(20, 0), STATE, x -> x.addDoorstep(9));
        refused("addDoorstep(9)", () -> Dairies.freshAndShared(20, 6), STATE, x -> x.addDoorstep(9));
    }

    private static void changesNothingInBuffer() {
        check.says("A call that throws an exception changes nothing (in the buffer)");
        String full = "d;".repeat(30);
        refused("append('d') to 60", () -> written(Dairies.fresh(2, 1), full), STATE, x -> x.append('d'));
        refused("append(32) to 60", () -> written(Dairies.fresh(2, 1), full), ARGUMENT, x -> x.append(32));
        for (String text : new String[] {"+", "-", "c", "l", "d;", "-1;", "q", "d;;", full}) {
            refused("run() of '" + text + "'", () -> written(Dairies.fresh(2, 1), text), ARGUMENT, x -> x.run());
        }
    }

    private static void listedFirstIsThrown() {
        check.says("the one that is listed first in its throws clause is thrown");
        Supplier<DoorstepRounds> full = () -> Dairies.fresh(20, 1);
        Supplier<DoorstepRounds> first = Dairies::beforeFirstStep;
        Supplier<DoorstepRounds> second = Dairies::beforeSecondStep;
        refused("addDoorstep(0) of 20", full, ARGUMENT, x -> x.addDoorstep(0));
        refused("addDoorstep(10) of 20", full, ARGUMENT, x -> x.addDoorstep(10));
        refused("addDoorstep(10) in a handover", first, ARGUMENT, x -> x.addDoorstep(10));
        refused("addDoorstep(0) in a handover", second, ARGUMENT, x -> x.addDoorstep(0));
        refused("removeDoorstep(5) in a handover", first, INDEX, x -> x.removeDoorstep(5));
        refused("removeDoorstep(-1) in a handover", second, INDEX, x -> x.removeDoorstep(-1));
        refused("setPints(5, 0)", second, INDEX, x -> x.setPints(5, 0));
        refused("setPints(-1, 10)", first, INDEX, x -> x.setPints(-1, 10));
        refused("setPints(0, 0) of none", DoorstepRounds::new, INDEX, x -> x.setPints(0, 0));
        refused("come(6) in a handover", first, INDEX, x -> x.come(6));
        refused("come(-1) in a handover", second, INDEX, x -> x.come(-1));
        refused("leave(6) in a handover", first, INDEX, x -> x.leave(6));
        refused("leave(-1) in a handover", second, INDEX, x -> x.leave(-1));
        Supplier<DoorstepRounds> fullBuffer = () -> written(new DoorstepRounds(), "z".repeat(60));
        refused("append(32) to 60", fullBuffer, ARGUMENT, x -> x.append(32));
        refused("append(127) to 60", fullBuffer, ARGUMENT, x -> x.append(127));
    }
}
