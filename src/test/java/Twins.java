import java.util.function.LongSupplier;
import java.util.function.Supplier;
import java.util.function.ToLongFunction;

/** Compares two dairies in all that can be asked for, and in all that can be done with them further on. */
final class Twins {
    private static final int DOORSTEPS = 20;
    private static final int MILKMEN = 6;

    private final Check check;

    Twins(Check check) {
        this.check = check;
    }

    /** The call throws this exception, and the dairy is in every way as one in which it was not called. */
    void refused(String call, Supplier<DoorstepRounds> maker, Class<? extends RuntimeException> want,
            ToLongFunction<DoorstepRounds> made) {
        same(call, () -> {
            DoorstepRounds x = maker.get();
            check.dueThrow(call, x, want, () -> made.applyAsLong(x));
            return x;
        }, maker);
    }

    /** What two makers make is the same. The dairies are used up, so that each look begins with new ones. */
    void same(String call, Supplier<DoorstepRounds> maker, Supplier<DoorstepRounds> otherMaker) {
        answersSame(call, maker.get(), otherMaker.get());
        buffersSame(call, maker.get(), otherMaker.get());
        undoesSame(call, maker.get(), otherMaker.get());
        callsOffSame(call, maker.get(), otherMaker.get());
        endsSame(call, maker.get(), otherMaker.get());
    }

    private void answersSame(String call, DoorstepRounds x, DoorstepRounds y) {
        pair(call + ", doorsteps()", x::doorsteps, y::doorsteps);
        pair(call + ", handover()", x::handover, y::handover);
        pair(call + ", changed()", x::changed, y::changed);
        pair(call + ", delivered()", x::delivered, y::delivered);
        pair(call + ", misses()", x::misses, y::misses);
        pair(call + ", changesToCome()", x::changesToCome, y::changesToCome);
        pair(call + ", savedStates()", x::savedStates, y::savedStates);
        pair(call + ", firstError()", x::firstError, y::firstError);
        pair(call + ", digest()", x::digest, y::digest);
        check.compare(call + ", unevenness()", Double.toString(x.unevenness()), Double.toString(y.unevenness()));
        for (int i = 0; i < DOORSTEPS; i++) {
            int doorstep = i;
            pair(call + ", pints(" + i + ")", () -> x.pints(doorstep), () -> y.pints(doorstep));
            pair(call + ", owner(" + i + ")", () -> x.owner(doorstep), () -> y.owner(doorstep));
            pair(call + ", planned(" + i + ")", () -> x.planned(doorstep), () -> y.planned(doorstep));
            pair(call + ", ifPlanned(" + i + ")", () -> x.ifPlanned(doorstep), () -> y.ifPlanned(doorstep));
            pair(call + ", reason(" + i + ")", () -> x.reason(doorstep), () -> y.reason(doorstep));
        }
        for (int i = 0; i < MILKMEN; i++) {
            int milkman = i;
            pair(call + ", isAtWork(" + i + ")", () -> x.isAtWork(milkman) ? 1 : 0, () -> y.isAtWork(milkman) ? 1 : 0);
            pair(call + ", size(" + i + ")", () -> x.size(milkman), () -> y.size(milkman));
            pair(call + ", load(" + i + ")", () -> x.load(milkman), () -> y.load(milkman));
            pair(call + ", changesIf(" + i + ")", () -> x.changesIf(milkman), () -> y.changesIf(milkman));
        }
    }

    /** The buffers are compared by what they do, as a text and as the beginning of one. */
    private void buffersSame(String call, DoorstepRounds x, DoorstepRounds y) {
        for (int code : new int[] {'1', ';', 'p'}) {
            pair(call + ", append(" + code + ")", () -> x.append(code), () -> y.append(code));
            pair(call + ", firstError() behind it", x::firstError, y::firstError);
            pair(call + ", run() behind it", x::run, y::run);
            pair(call + ", digest() behind it", x::digest, y::digest);
        }
        pair(call + ", clearText()", x::clearText, y::clearText);
    }

    private void undoesSame(String call, DoorstepRounds x, DoorstepRounds y) {
        for (int i = 0; i < 7; i++) {
            pair(call + ", undo() " + i, x::undo, y::undo);
            pair(call + ", digest() behind undo " + i, x::digest, y::digest);
            pair(call + ", savedStates() behind undo " + i, x::savedStates, y::savedStates);
        }
        pair(call + ", clearText() behind undo", x::clearText, y::clearText);
    }

    private void callsOffSame(String call, DoorstepRounds x, DoorstepRounds y) {
        pair(call + ", callOff()", x::callOff, y::callOff);
        pair(call + ", digest() behind callOff()", x::digest, y::digest);
        pair(call + ", deliver() behind callOff()", x::deliver, y::deliver);
        pair(call + ", delivered() behind callOff()", x::delivered, y::delivered);
    }

    private void endsSame(String call, DoorstepRounds x, DoorstepRounds y) {
        for (int i = 0; i < 2; i++) {
            pair(call + ", handOver()", x::handOver, y::handOver);
            pair(call + ", digest() behind handOver()", x::digest, y::digest);
        }
    }

    private void pair(String call, LongSupplier made, LongSupplier otherMade) {
        check.compare(call, answer(made), answer(otherMade));
    }

    private static String answer(LongSupplier made) {
        try {
            return Long.toString(made.getAsLong());
        } catch (RuntimeException e) {
            return "throws." + e.getClass().getSimpleName();
        }
    }
}
