import java.math.BigInteger;
import java.util.ArrayList;
import java.util.List;

/** Promise 33: a test for each value of the list, and for the arithmetic. */
public final class DigestEdgesTest {
    private static final Check check = new Check("DigestEdgesTest");

    public static void main(String[] args) {
        check.each(
            DigestEdgesTest::startsAt4756, DigestEdgesTest::longArithmeticWithOverflow,
            DigestEdgesTest::countOfDoorsteps, DigestEdgesTest::handover, DigestEdgesTest::changed,
            DigestEdgesTest::delivered, DigestEdgesTest::misses, DigestEdgesTest::changesToCome,
            DigestEdgesTest::atWork, DigestEdgesTest::sizeAndLoad, DigestEdgesTest::changesIf,
            DigestEdgesTest::pintsAndOwner, DigestEdgesTest::plannedAndIfPlanned, DigestEdgesTest::reason,
            DigestEdgesTest::inOrder, DigestEdgesTest::hashOfTheState);
        check.end();
    }

    /** The hash in numbers without an end, of which the last 64 bits are left. */
    private static long hash(int[]... parts) {
        return endless(parts).longValue();
    }

    private static BigInteger endless(int[]... parts) {
        BigInteger hash = BigInteger.valueOf(4756);
        for (int[] part : parts) {
            for (int value : part) {
                hash = hash.multiply(BigInteger.valueOf(31)).add(BigInteger.valueOf(value));
            }
        }
        return hash;
    }

    private static int[] row(int... numbers) {
        return Dairies.row(numbers);
    }

    private static int[] times(int count, int... numbers) {
        int[] all = new int[count * numbers.length];
        for (int i = 0; i < all.length; i++) {
            all[i] = numbers[i % numbers.length];
        }
        return all;
    }

    /** What the calls of the list return, in its order. */
    private static long hashOfAnswers(DoorstepRounds x) {
        List<Integer> values = new ArrayList<>(List.of(x.doorsteps(), x.handover(), x.changed(), x.delivered(),
            x.misses(), x.changesToCome()));
        for (int m = 0; m < 6; m++) {
            values.addAll(List.of(x.isAtWork(m) ? 1 : 0, x.size(m), x.load(m), x.changesIf(m)));
        }
        for (int i = 0; i < x.doorsteps(); i++) {
            values.addAll(List.of(x.pints(i), x.owner(i), x.planned(i), x.ifPlanned(i), x.reason(i)));
        }
        return hash(values.stream().mapToInt(v -> v).toArray());
    }

    /** A value differs, and so many values are behind it that are the same. */
    private static void onlyDiffers(String what, long digest, long other, int difference, int behind) {
        BigInteger weight = BigInteger.valueOf(31).pow(behind).multiply(BigInteger.valueOf(difference));
        check.due(what, weight.longValue(), () -> other - digest);
    }

    private static void startsAt4756() {
        check.says("The hash starts at 4756");
        DoorstepRounds x = new DoorstepRounds();
        check.due("digest() of a new object", hash(row(0, 0, 0, 0, 0, -1), times(6, 0, 0, 0, 0)), () -> x.digest());
        check.due("hashOfAnswers()", x.digest(), () -> hashOfAnswers(x));
    }

    private static void longArithmeticWithOverflow() {
        check.says("the hash becomes 31 * hash + v, in long arithmetic with overflow");
        DoorstepRounds x = Check.dairy(row(), Dairies.same(20, 9));
        int[][] values = {row(20, 0, 0, 0, 0, -1), times(6, 0, 0, 0, 20), times(20, 9, -1, -1, -1, 1)};
        check.due("digest() of 20 nines", hash(values), () -> x.digest());
        check.dueTrue("it is more than 64 bits", endless(values).bitLength() > 600);
        // the bits above the 32nd and the sign are of the hash too
        check.dueTrue("it does not end at 32 bits", x.digest() != (int) x.digest());
        boolean negative = false;
        boolean positive = false;
        for (int count = 0; count <= 20; count++) {
            long digest = Dairies.fresh(count, 0).digest();
            negative = negative || digest < 0;
            positive = positive || digest > 0;
        }
        check.dueTrue("it can be of either sign", negative && positive);
    }

    private static void countOfDoorsteps() {
        check.says("what doorsteps() returns");
        for (int count : new int[] {0, 1, 2, 19, 20}) {
            DoorstepRounds x = Dairies.fresh(count, 0);
            long want = hash(row(count, 0, 0, 0, 0, -1), times(6, 0, 0, 0, count), times(count, 1, -1, -1, -1, 1));
            check.due("digest() of " + count, want, () -> x.digest());
        }
    }

    private static void handover() {
        check.says("what handover() returns");
        DoorstepRounds x = Dairies.fresh(1, 1);
        x.plan();
        long first = x.digest();
        x.handOver();
        onlyDiffers("digest() before the second step", first, x.digest(), 1, 4 + 24 + 5);
    }

    private static void changed() {
        check.says("what changed() returns");
        DoorstepRounds x = Dairies.freshAndShared(3, 1);
        long digest = x.digest();
        x.leave(0);
        x.come(0);
        Check.share(x);
        onlyDiffers("digest() behind three changes more", digest, x.digest(), 3, 3 + 24 + 15);
    }

    private static void delivered() {
        check.says("what delivered() returns");
        DoorstepRounds x = Check.dairy(row(2), 9, 8);
        Check.share(x);
        long digest = x.digest();
        x.deliver();
        onlyDiffers("digest() behind 17 pints", digest, x.digest(), 17, 2 + 24 + 10);
    }

    private static void misses() {
        check.says("what misses() returns");
        DoorstepRounds x = Dairies.fresh(20, 0);
        long digest = x.digest();
        x.deliver();
        onlyDiffers("digest() behind 20 misses", digest, x.digest(), 20, 1 + 24 + 100);
    }

    private static void changesToCome() {
        check.says("what changesToCome() returns");
        DoorstepRounds none = Dairies.fresh(0, 6);
        check.due("digest() of no changes", hash(row(0, 0, 0, 0, 0, 0), times(6, 1, 0, 0, 0)), () -> none.digest());
        DoorstepRounds two = Check.dairy(row(1), 3, 4);
        check.due("digest() of two changes", hash(row(2, 0, 0, 0, 0, 2), row(0, 0, 0, 2, 1, 0, 0, -1),
            times(4, 0, 0, 0, 2), row(3, -1, -1, 1, 2, 4, -1, -1, 1, 2)), () -> two.digest());
    }

    private static void atWork() {
        check.says("for each milkman from 0 to 5 1 if he is at work, otherwise 0");
        for (int milkman = 0; milkman < 6; milkman++) {
            DoorstepRounds x = Check.dairy(row(milkman));
            long want = hash(row(0, 0, 0, 0, 0, 0), times(milkman, 0, 0, 0, 0), row(1, 0, 0, -1),
                times(5 - milkman, 0, 0, 0, 0));
            check.due("digest() of " + milkman + " at work", want, () -> x.digest());
        }
    }

    private static void sizeAndLoad() {
        check.says("the size and the load of his round");
        for (int milkman = 0; milkman < 6; milkman++) {
            DoorstepRounds x = Check.dairy(row(milkman), 9, 8, 7);
            Check.share(x);
            int owner = milkman;
            // a second milkman would get one of three, or the last one if his number is less: one in either case
            long want = hash(row(3, 0, 3, 0, 0, 0), times(milkman, 0, 0, 0, 1), row(1, 3, 24, -1),
                times(5 - milkman, 0, 0, 0, 1), row(9, owner, owner, owner, 0), row(8, owner, owner, owner, 0),
                row(7, owner, owner, owner, 0));
            check.due("digest() of the round of " + milkman, want, () -> x.digest());
        }
    }

    private static void changesIf() {
        check.says("and what changesIf() returns");
        DoorstepRounds x = Dairies.owned(row(0, 3), row(1, 2, 3), row(0, 0, 3));
        x.deliver();
        long want = hash(row(3, 0, 4, 6, 0, 0), row(1, 2, 3, 2), row(0, 0, 0, 1), row(0, 0, 0, 1),
            row(1, 1, 3, 1), row(0, 0, 0, 1), row(0, 0, 0, 1), row(1, 0, 0, 0, 0), row(2, 0, 0, 0, 0),
            row(3, 3, 3, 3, 0));
        check.due("digest() of two rounds", want, () -> x.digest());
    }

    private static void pintsAndOwner() {
        check.says("for each doorstep its pints, its owner");
        DoorstepRounds x = Dairies.calledOff();
        long want = hash(row(5, 0, 4, 0, 0, 2), row(1, 4, 10, 5, 1, 0, 0, 1), times(4, 0, 0, 0, 3),
            row(1, 0, 0, 1, 3), row(2, 0, 0, 0, 0), row(3, 0, 0, 0, 0), row(4, 0, 0, 0, 0), row(5, -1, -1, 1, 2));
        check.due("digest() behind callOff()", want, () -> x.digest());
    }

    private static void plannedAndIfPlanned() {
        check.says("what planned(), ifPlanned() return");
        DoorstepRounds x = Dairies.beforeFirstStep();
        x.setPints(0, 9);
        x.setPints(3, 1);
        // the plan stays, but by other pints 0 would keep 0, 2 and 1, and give up 3
        long want = hash(row(5, 1, 4, 0, 0, 2), row(1, 4, 15, 5, 1, 0, 0, 1), times(4, 0, 0, 0, 3),
            row(9, 0, 1, 0, 0), row(2, 0, 0, 0, 0), row(3, 0, 0, 0, 0), row(1, 0, 0, 1, 3), row(5, -1, 1, 1, 2));
        check.due("digest() of two plans", want, () -> x.digest());
    }

    private static void reason() {
        check.says("and reason() return");
        DoorstepRounds first = Dairies.beforeFirstStep();
        long wantFirst = hash(row(5, 1, 4, 0, 0, 2), row(1, 4, 10, 5, 1, 0, 0, 1), times(4, 0, 0, 0, 3),
            row(1, 0, 1, 1, 3), row(2, 0, 0, 0, 0), row(3, 0, 0, 0, 0), row(4, 0, 0, 0, 0), row(5, -1, 1, 1, 2));
        check.due("digest() of 0, 2 and 3", wantFirst, () -> first.digest());
        DoorstepRounds second = Dairies.beforeSecondStep();
        long wantSecond = hash(row(5, 2, 4, 0, 0, 2), row(1, 3, 9, 5, 1, 0, 0, 2), times(4, 0, 0, 0, 3),
            row(1, -1, 1, 1, 2), row(2, 0, 0, 0, 0), row(3, 0, 0, 0, 0), row(4, 0, 0, 0, 0), row(5, -1, 1, 1, 2));
        check.due("digest() of 0 and 2", wantSecond, () -> second.digest());
        DoorstepRounds nobody = Dairies.fresh(1, 0);
        check.due("digest() of 1", hash(row(1, 0, 0, 0, 0, -1), times(6, 0, 0, 0, 1), row(1, -1, -1, -1, 1)),
            () -> nobody.digest());
    }

    private static void inOrder() {
        check.says("For each value v of the following list, in order");
        int[] owners = {5, 2, -1, 2, 5, 5, -1};
        DoorstepRounds[] all = {new DoorstepRounds(), Dairies.fresh(20, 0), Dairies.fresh(20, 6),
            Dairies.freshAndShared(20, 6), Dairies.freshAndShared(20, 1), Dairies.beforeFirstStep(),
            Dairies.beforeSecondStep(), Dairies.behindHandover(), Dairies.calledOff(),
            Dairies.owned(row(2, 5), row(9, 1, 8, 2, 7, 3, 6), owners)};
        for (int i = 0; i < all.length; i++) {
            DoorstepRounds x = all[i];
            check.due("digest() of dairy " + i, hashOfAnswers(x), () -> x.digest());
            x.deliver();
            check.due("digest() of dairy " + i + " behind deliver()", hashOfAnswers(x), () -> x.digest());
            x.undo();
            check.due("digest() of dairy " + i + " behind undo()", hashOfAnswers(x), () -> x.digest());
        }
    }

    private static void hashOfTheState() {
        check.says("Computes a hash of the state (of everything except the buffer and the saved states)");
        DoorstepRounds x = Dairies.beforeSecondStep();
        long digest = x.digest();
        check.due("digest() again", digest, () -> x.digest());
        Check.write(x, "p;q");
        check.due("digest() with a text in the buffer", digest, () -> x.digest());
        x.setPints(0, 1);
        check.due("digest() with a saved state more", digest, () -> x.digest());
        x.undo();
        x.undo();
        x.undo();
        x.plan();
        x.handOver();
        check.due("digest() of the same state with fewer saved ones", digest, () -> x.digest());
    }
}
