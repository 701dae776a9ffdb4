import java.util.ArrayList;
import java.util.Arrays;
import java.util.List;

/** Dairies that the boundary tests begin with. */
final class Dairies {
    static final int NONE = -1;
    private static final int MILKMEN = 6;

    private Dairies() {
    }

    /** Numbers that no doorstep bears when there are so many of them. */
    static int[] noDoorsteps(int count) {
        return row(-1, count, count + 1, 20, Integer.MIN_VALUE, Integer.MAX_VALUE);
    }

    /** Numbers that no milkman bears. */
    static int[] noMilkmen() {
        return row(-1, 6, 7, Integer.MIN_VALUE, Integer.MAX_VALUE);
    }

    static int[] row(int... numbers) {
        return numbers;
    }

    static int[] same(int length, int number) {
        int[] row = new int[length];
        Arrays.fill(row, number);
        return row;
    }

    /** A dairy with so many doorsteps that belong to nobody, and the milkmen 0 to (milkmen - 1) at work. */
    static DoorstepRounds fresh(int doorsteps, int milkmen) {
        return Check.dairy(firstMilkmen(milkmen), same(doorsteps, 1));
    }

    static DoorstepRounds freshAndShared(int doorsteps, int milkmen) {
        DoorstepRounds x = fresh(doorsteps, milkmen);
        Check.share(x);
        return x;
    }

    private static int[] firstMilkmen(int count) {
        int[] row = new int[count];
        for (int i = 0; i < count; i++) {
            row[i] = i;
        }
        return row;
    }

    /** 0 has the doorsteps 1 to 3 and gives up 0; 1 takes over 0 and 4, which is nobody's: the first step is due. */
    static DoorstepRounds beforeFirstStep() {
        DoorstepRounds x = Check.dairy(row(0), 1, 2, 3, 4);
        Check.share(x);
        x.come(1);
        x.addDoorstep(5);
        x.plan();
        return x;
    }

    static DoorstepRounds beforeSecondStep() {
        DoorstepRounds x = beforeFirstStep();
        x.handOver();
        return x;
    }

    static DoorstepRounds behindHandover() {
        DoorstepRounds x = beforeSecondStep();
        x.handOver();
        return x;
    }

    static DoorstepRounds calledOff() {
        DoorstepRounds x = beforeSecondStep();
        x.callOff();
        return x;
    }

    /**
     * A dairy in which these milkmen are at work, and the doorsteps belong to them (or to nobody) as told.
     * Fresh doorsteps are shared out in turn, so that the ones between, which are removed at the end, let each
     * doorstep come to its turn; who has the doorsteps of nobody leaves at the end.
     */
    static DoorstepRounds owned(int[] work, int[] pints, int[] owners) {
        DoorstepRounds x = new DoorstepRounds();
        int owned = owners.length;
        while (owned > 0 && owners[owned - 1] == NONE) {
            owned--;
        }
        int spare = spareFor(work, Arrays.copyOf(owners, owned));
        int[] turns = turns(work, spare);
        for (int milkman : turns) {
            x.come(milkman);
        }
        giveInTurn(x, turns, Arrays.copyOf(pints, owned), Arrays.copyOf(owners, owned), spare);
        if (spare != NONE) {
            x.leave(spare);
        }
        for (int i = owned; i < owners.length; i++) {
            x.addDoorstep(pints[i]);
        }
        mustBe(x, pints, owners);
        return x;
    }

    private static void giveInTurn(DoorstepRounds x, int[] turns, int[] pints, int[] owners, int spare) {
        List<Integer> between = new ArrayList<>();
        int turn = 0;
        for (int i = 0; i < owners.length; i++) {
            int owner = owners[i] == NONE ? spare : owners[i];
            while (turns[turn] != owner) {
                between.add(x.addDoorstep(1));
                Check.share(x);
                turn = (turn + 1) % turns.length;
            }
            x.addDoorstep(pints[i]);
            Check.share(x);
            turn = (turn + 1) % turns.length;
        }
        for (int i = between.size() - 1; i >= 0; i--) {
            x.removeDoorstep(between.get(i));
        }
    }

    /** A milkman who is not at work, if one is needed. */
    private static int spareFor(int[] work, int[] owners) {
        for (int owner : owners) {
            for (int milkman = 0; owner == NONE && milkman < MILKMEN; milkman++) {
                if (!contains(work, milkman)) {
                    return milkman;
                }
            }
        }
        return NONE;
    }

    private static int[] turns(int[] work, int spare) {
        int[] turns = Arrays.copyOf(work, spare == NONE ? work.length : work.length + 1);
        if (spare != NONE) {
            turns[work.length] = spare;
        }
        Arrays.sort(turns);
        return turns;
    }

    private static boolean contains(int[] row, int number) {
        for (int one : row) {
            if (one == number) {
                return true;
            }
        }
        return false;
    }

    private static void mustBe(DoorstepRounds x, int[] pints, int[] owners) {
        boolean good = x.doorsteps() == owners.length && x.handover() == 0;
        for (int i = 0; i < owners.length && good; i++) {
            good = x.owner(i) == owners[i] && x.pints(i) == pints[i];
        }
        if (!good) {
            throw new AssertionError("this dairy could not be made: " + Arrays.toString(owners));
        }
    }
}
