import java.util.Arrays;

/** 'Sharing out': a test for each sentence, at its edges. */
public final class SharingEdgesTest {
    private static final Check check = new Check("SharingEdgesTest");
    private static final int N = Dairies.NONE;

    public static void main(String[] args) {
        check.each(
            SharingEdgesTest::quotaRoundedDown, SharingEdgesTest::oneMoreForTheFirst,
            SharingEdgesTest::fewerDoorstepsThanMilkmen, SharingEdgesTest::greatestRoundFirst,
            SharingEdgesTest::sameSizeLeastNumber, SharingEdgesTest::keepsAll, SharingEdgesTest::keepsMostPints,
            SharingEdgesTest::keepsLeastNumbers, SharingEdgesTest::othersByPints,
            SharingEdgesTest::othersByNumber, SharingEdgesTest::onlyBelowQuota, SharingEdgesTest::leastLoad,
            SharingEdgesTest::loadSoFar, SharingEdgesTest::sameLoadLeastNumber, SharingEdgesTest::noDoorsteps,
            SharingEdgesTest::everyDoorstepIsGivenOut);
        check.end();
    }

    /** Plans in a dairy made so, with what is due: all planned owners. */
    private static void due(String what, int[] work, int[] pints, int[] owners, int... want) {
        DoorstepRounds x = Dairies.owned(work, pints, owners);
        int changes = 0;
        for (int i = 0; i < want.length; i++) {
            int doorstep = i;
            changes += want[i] == owners[i] ? 0 : 1;
            check.due(what + ", ifPlanned(" + i + ")", want[i], () -> x.ifPlanned(doorstep));
        }
        int wanted = changes;
        check.due(what + ", changesToCome()", wanted, () -> x.changesToCome());
        check.due(what + ", plan()", wanted, () -> x.plan());
        check.planned(what, x, want);
        check.due(what + ", handover()", wanted == 0 ? 0 : 1, () -> x.handover());
    }

    /** Shares out so many fresh doorsteps among so many milkmen. */
    private static void dueSizes(int doorsteps, int milkmen, int... want) {
        DoorstepRounds x = Dairies.fresh(doorsteps, milkmen);
        String what = doorsteps + " doorsteps, " + milkmen + " milkmen";
        check.due(what + ", plan()", doorsteps, () -> x.plan());
        x.handOver();
        x.handOver();
        check.sizes(what, x, want);
    }

    private static int[] row(int... numbers) {
        return Dairies.row(numbers);
    }

    private static void quotaRoundedDown() {
        check.says("The quota of a milkman is d / m (rounded down): d % m is 0");
        dueSizes(1, 1, 1, 0, 0, 0, 0, 0);
        dueSizes(20, 1, 20, 0, 0, 0, 0, 0);
        dueSizes(20, 2, 10, 10, 0, 0, 0, 0);
        dueSizes(20, 5, 4, 4, 4, 4, 4, 0);
        dueSizes(18, 6, 3, 3, 3, 3, 3, 3);
        dueSizes(6, 6, 1, 1, 1, 1, 1, 1);
        due("3 and 3", row(0, 1), Dairies.same(6, 1), Dairies.same(6, 0), 0, 0, 0, 1, 1, 1);
        due("all are even already", row(0, 1), Dairies.same(4, 1), row(1, 0, 0, 1), 1, 0, 0, 1);
    }

    private static void oneMoreForTheFirst() {
        check.says("and 1 more for the first (d % m) milkmen in the following order: d % m is not 0");
        dueSizes(20, 6, 4, 4, 3, 3, 3, 3);
        dueSizes(20, 3, 7, 7, 6, 0, 0, 0);
        dueSizes(7, 6, 2, 1, 1, 1, 1, 1);
        dueSizes(11, 6, 2, 2, 2, 2, 2, 1);
        dueSizes(19, 2, 10, 9, 0, 0, 0, 0);
        dueSizes(3, 2, 2, 1, 0, 0, 0, 0);
    }

    private static void fewerDoorstepsThanMilkmen() {
        check.says("The quota of a milkman is d / m (rounded down): 0, and 1 more for some");
        dueSizes(1, 6, 1, 0, 0, 0, 0, 0);
        dueSizes(5, 6, 1, 1, 1, 1, 1, 0);
        due("who has them is first", row(0, 1, 2, 3), row(1, 1), row(3, 2), 3, 2);
        due("0 of 4 has both, and 1 gets one", row(0, 1, 2, 3), row(1, 1), row(0, 0), 0, 1);
    }

    private static void greatestRoundFirst() {
        check.says("those with the greatest round come first");
        due("the greatest number", row(0, 1), row(5, 5, 5), row(1, 1, 0), 1, 1, 0);
        due("two of three", row(0, 1, 2), Dairies.same(5, 2), row(1, 1, 2, 2, 0), 1, 1, 2, 2, 0);
        due("by size, not by load", row(0, 1), row(9, 1, 1), row(0, 1, 1), 0, 1, 1);
        due("not the one without a round", row(0, 5), row(3), row(5), 5);
        // quotas 0: 2, 1: 3, 2: 3; 1 gives up 4, the least of four
        due("three sizes", row(0, 1, 2), row(7, 6, 5, 4, 1, 2, 2, 3), row(1, 1, 1, 1, 0, 2, 2, N),
            1, 1, 1, 0, 0, 2, 2, 2);
        // the doorsteps that were removed, or left behind, do not count
        DoorstepRounds x = Dairies.freshAndShared(4, 2);
        x.removeDoorstep(0);
        check.due("plan() when 0 has one and 1 has two", 0, () -> x.plan());
    }

    private static void sameSizeLeastNumber() {
        check.says("and of those with rounds of the same size those with the least number");
        due("1 each", row(2, 4), row(3, 3, 3), row(4, 2, N), 4, 2, 2);
        due("1 each, by number and not by load", row(2, 4), row(1, 9, 3), row(2, 4, N), 2, 4, 2);
        due("1 each, by number and not by load", row(2, 4), row(9, 1, 3), row(2, 4, N), 2, 4, 2);
        due("no round each", row(1, 3, 5), row(2), row(N), 1);
        due("no round each", row(1, 3, 5), row(2, 2), row(N, N), 1, 3);
        due("the last ones are the same", row(0, 3, 4), Dairies.same(5, 2), row(4, 4, N, N, N), 4, 4, 0, 3, 0);
    }

    private static void keepsAll() {
        check.says("Each milkman keeps as many doorsteps of his round as his quota allows, "
            + "all of them if there are not more");
        due("as many as the quota", row(0, 1), row(1, 2, 9, 8), row(0, 0, N, N), 0, 0, 1, 1);
        due("one fewer than the quota", row(0, 1), row(1, 9, 2, 8), row(0, 1, 1, N), 0, 1, 1, 0);
        due("one more than the quota", row(0, 1), row(1, 2, 3, 9), row(0, 0, 0, 1), 1, 0, 0, 1);
        due("fewer doorsteps than milkmen", row(0, 1, 2), row(5, 5), row(2, 2), 2, 0);
        due("two give up, one takes over", row(0, 1, 2), row(1, 2, 3, 1, 2, 4), row(0, 0, 0, 1, 1, 1),
            2, 0, 0, 2, 1, 1);
    }

    private static void keepsMostPints() {
        check.says("If he has more, he keeps those with the most pints");
        due("the middle ones", row(0, 1), row(1, 9, 5, 2), Dairies.same(4, 0), 1, 0, 0, 1);
        due("the last ones", row(0, 1), row(1, 2, 8, 9), Dairies.same(4, 0), 1, 1, 0, 0);
        due("9 before 8", row(0, 1), row(8, 9), Dairies.same(2, 0), 1, 0);
        due("2 before 1", row(0, 1), row(1, 2), Dairies.same(2, 0), 1, 0);
    }

    private static void keepsLeastNumbers() {
        check.says("among those with the same pints, those with the least numbers");
        due("all the same", row(0, 1), row(4, 4, 4, 4), Dairies.same(4, 0), 0, 0, 1, 1);
        due("the most pints behind them", row(0, 1), row(4, 4, 4, 9), Dairies.same(4, 0), 0, 1, 1, 0);
        DoorstepRounds x = Check.dairy(row(2), Dairies.same(20, 9));
        Check.share(x);
        x.come(1);
        check.due("20 the same, plan()", 10, () -> x.plan());
        check.planned("20 the same", x, 2, 2, 2, 2, 2, 2, 2, 2, 2, 2, 1, 1, 1, 1, 1, 1, 1, 1, 1, 1);
    }

    private static void othersByPints() {
        check.says("All other doorsteps, in the order of the most pints");
        due("nobody's before the one given up", row(0, 1, 2), row(4, 9, 9, 6), row(0, 0, 0, N), 2, 0, 0, 1);
        due("the one given up before nobody's", row(0, 1, 2), row(6, 9, 9, 4), row(0, 0, 0, N), 1, 0, 0, 2);
        due("rising pints", row(0, 1, 2), row(1, 2, 3), row(N, N, N), 2, 1, 0);
        due("falling pints", row(0, 1, 2), row(9, 8, 7), row(N, N, N), 0, 1, 2);
    }

    private static void othersByNumber() {
        check.says("and of the least numbers among those with the same pints, are given out one by one");
        due("the one given up, by number", row(0, 1, 2), row(5, 9, 9, 5), row(0, 0, 0, N), 1, 0, 0, 2);
        due("nobody's, by number", row(0, 1, 2), row(5, 9, 9, 5), row(N, 0, 0, 0), 1, 0, 0, 2);
        due("all nobody's", row(1, 2, 5), row(3, 3, 3), row(N, N, N), 1, 2, 5);
    }

    private static void onlyBelowQuota() {
        check.says("each one to the milkman who has fewer doorsteps in the plan so far than his quota");
        due("the least load is full", row(0, 1), row(1, 1, 9, 5), row(0, 0, 1, N), 0, 0, 1, 1);
        due("the quota of 0 is full", row(0, 1, 2, 3, 4, 5), row(1, 1, 1), row(N, N, N), 0, 1, 2);
        due("1 more is room", row(0, 1), row(9, 1, 1), row(0, 1, N), 0, 1, 0);
    }

    private static void leastLoad() {
        check.says("and among several such milkmen to the one with the least load in the plan so far");
        due("by load, not by number", row(0, 1), row(9, 1, 4, 3), row(0, 1, N, N), 0, 1, 1, 0);
        due("by load, not by size", row(0, 1), row(9, 1, 1, 3, 2, 1), row(0, 1, 1, N, N, N), 0, 1, 1, 1, 0, 0);
        due("one pint less", row(0, 1), row(5, 4, 3, 3), row(0, 1, N, N), 0, 1, 1, 0);
    }

    private static void loadSoFar() {
        check.says("(the sum of the pints of the doorsteps that the plan gives him)");
        // 9 to 0; 5 and 4 to 1; at 9 and 9 the 3 to 0; 2 to 1, who is full; 1 to 0
        due("it grows with each one", row(0, 1), row(9, 5, 4, 3, 2, 1), Dairies.same(6, N), 0, 1, 1, 0, 1, 0);
        // 8 to 2, 7 to 4, 6 to 5, 6 to 5 or 4: 5 has 6, so 5; 5 to 4; 2 to 2
        due("of three", row(2, 4, 5), row(2, 5, 6, 6, 7, 8), Dairies.same(6, N), 2, 4, 5, 5, 4, 2);
        // 0 keeps 3 and 3, 1 keeps 5; quotas 4 and 4: what 0 and 1 keep counts for them
        due("kept ones count", row(0, 1), row(3, 3, 5, 4, 1, 1, 1, 1), row(0, 0, 1, N, N, N, N, N),
            0, 0, 1, 1, 0, 0, 1, 1);
    }

    private static void sameLoadLeastNumber() {
        check.says("and of several such milkmen to the one with the least number");
        due("4 each", row(2, 5), row(4, 4, 7, 7), row(5, 2, N, N), 5, 2, 2, 5);
        due("the same load of two sizes", row(0, 3), row(2, 2, 4, 1, 1, 1), row(3, 3, 0, N, N, N), 3, 3, 0, 0, 3, 0);
        due("nothing each", row(4, 5), row(9, 9), row(N, N), 4, 5);
    }

    private static void noDoorsteps() {
        check.says("Let m be the number of milkmen at work, and d the number of doorsteps: no doorsteps");
        for (int milkmen = 1; milkmen <= 6; milkmen++) {
            DoorstepRounds x = Dairies.fresh(0, milkmen);
            check.due("changesToCome()", 0, () -> x.changesToCome());
            check.due("plan()", 0, () -> x.plan());
            check.due("handover()", 0, () -> x.handover());
        }
    }

    private static void everyDoorstepIsGivenOut() {
        check.says("Sharing out makes a plan, which tells for each doorstep to whom it shall belong");
        for (int milkmen = 1; milkmen <= 6; milkmen++) {
            for (int doorsteps = 1; doorsteps <= 20; doorsteps++) {
                evenRounds(doorsteps, milkmen);
            }
        }
    }

    /** Any number of doorsteps is shared out evenly, first among one, then among all of them. */
    private static void evenRounds(int doorsteps, int milkmen) {
        DoorstepRounds x = Dairies.freshAndShared(doorsteps, 1);
        for (int milkman = 1; milkman < milkmen; milkman++) {
            x.come(milkman);
        }
        if (x.plan() > 0) {
            x.handOver();
            x.handOver();
        }
        int[] sizes = new int[milkmen];
        for (int i = 0; i < doorsteps; i++) {
            int owner = x.owner(i);
            check.dueTrue("owner(" + i + ") is at work", owner >= 0 && owner < milkmen);
            sizes[owner]++;
        }
        int[] want = new int[milkmen];
        Arrays.fill(want, doorsteps / milkmen);
        for (int i = 0; i < doorsteps % milkmen; i++) {
            want[i]++;
        }
        check.compare("sizes of " + doorsteps, Arrays.toString(sizes), Arrays.toString(want));
    }
}
