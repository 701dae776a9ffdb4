/** Promises 22 to 26: a test for each sentence that names an edge. */
public final class ForecastEdgesTest {
    private static final Check check = new Check("ForecastEdgesTest");
    private static final int N = Dairies.NONE;

    public static void main(String[] args) {
        check.each(
            ForecastEdgesTest::changeNothing, ForecastEdgesTest::belongsByThePlan,
            ForecastEdgesTest::ifPlannedNobodyAtWork, ForecastEdgesTest::ifPlannedInHandover,
            ForecastEdgesTest::ifPlannedNoSuchDoorstep, ForecastEdgesTest::reasonNoSuchDoorstep,
            ForecastEdgesTest::itWouldStay, ForecastEdgesTest::reasonNobodyAtWork,
            ForecastEdgesTest::nobodysWouldBeGivenOut, ForecastEdgesTest::wouldBeTaken,
            ForecastEdgesTest::reasonInHandover, ForecastEdgesTest::changesToComeOfPlan,
            ForecastEdgesTest::changesToComeNobodyAtWork, ForecastEdgesTest::changesToComeInHandover,
            ForecastEdgesTest::comesIfNotAtWork, ForecastEdgesTest::leavesIfAtWork,
            ForecastEdgesTest::nobodyWouldBeAtWork, ForecastEdgesTest::changesIfInHandover,
            ForecastEdgesTest::noSuchMilkman, ForecastEdgesTest::greatestMinusLeast,
            ForecastEdgesTest::dividedByDoorsteps, ForecastEdgesTest::unevennessIsZero,
            ForecastEdgesTest::unevennessInHandover);
        check.end();
    }

    private static int[] row(int... numbers) {
        return Dairies.row(numbers);
    }

    private static void ifPlanned(String what, DoorstepRounds x, int... want) {
        for (int i = 0; i < want.length; i++) {
            int doorstep = i;
            check.due(what + ", ifPlanned(" + i + ")", want[i], () -> x.ifPlanned(doorstep));
        }
    }

    private static void reasons(String what, DoorstepRounds x, int... want) {
        for (int i = 0; i < want.length; i++) {
            int doorstep = i;
            check.due(what + ", reason(" + i + ")", want[i], () -> x.reason(doorstep));
        }
    }

    private static void changesIf(String what, DoorstepRounds x, int... want) {
        for (int i = 0; i < want.length; i++) {
            int milkman = i;
            check.due(what + ", changesIf(" + i + ")", want[i], () -> x.changesIf(milkman));
        }
    }

    private static void changeNothing() {
        check.says("forecasts; they change nothing");
        new Twins(check).same("all forecasts", () -> forecasted(Dairies.beforeSecondStep()), Dairies::beforeSecondStep);
        new Twins(check).same("all forecasts", () -> forecasted(Dairies.behindHandover()), Dairies::behindHandover);
        new Twins(check).same("all forecasts", () -> forecasted(Dairies.fresh(3, 0)), () -> Dairies.fresh(3, 0));
    }

    private static DoorstepRounds forecasted(DoorstepRounds x) {
        for (int i = 0; i < x.doorsteps(); i++) {
            x.ifPlanned(i);
            x.reason(i);
        }
        for (int i = 0; i < 6; i++) {
            x.changesIf(i);
        }
        x.changesToCome();
        x.unevenness();
        x.digest();
        return x;
    }

    private static void belongsByThePlan() {
        check.says("Returns to whom it would belong by the plan");
        DoorstepRounds x = Dairies.owned(row(0, 1), row(1, 2, 3, 4, 5), row(0, 0, 0, 0, N));
        ifPlanned("before the plan", x, 1, 0, 0, 0, 1);
        x.plan();
        check.planned("the plan", x, 1, 0, 0, 0, 1);
        DoorstepRounds full = Dairies.fresh(20, 6);
        check.due("ifPlanned(0) of 20", 0, () -> full.ifPlanned(0));
        check.due("ifPlanned(19) of 20", 1, () -> full.ifPlanned(19));
    }

    private static void ifPlannedNobodyAtWork() {
        check.says("NONE if nobody is at work (ifPlanned)");
        ifPlanned("never anybody", Dairies.fresh(20, 0), Dairies.same(20, -1));
        DoorstepRounds x = Dairies.freshAndShared(3, 1);
        check.due("ifPlanned(2)", 0, () -> x.ifPlanned(2));
        x.leave(0);
        ifPlanned("the last one has left", x, -1, -1, -1);
    }

    private static void ifPlannedInHandover() {
        check.says("(A handover does not matter for this: the doorsteps count as they belong now.)");
        ifPlanned("before the first step", Dairies.beforeFirstStep(), 1, 0, 0, 0, 1);
        // 9 pints now: 0 has more than his quota of 3 before the first step, and would keep 0, 3 and 2
        DoorstepRounds first = Dairies.beforeFirstStep();
        first.setPints(0, 9);
        ifPlanned("before the first step, other pints", first, 0, 1, 0, 0, 1);
        // behind it 0 has three, which is his quota, and 0 is nobody's
        DoorstepRounds second = Dairies.beforeSecondStep();
        second.setPints(0, 9);
        ifPlanned("before the second step, other pints", second, 1, 0, 0, 0, 1);
        check.planned("the plan stays", second, 1, 0, 0, 0, 1);
    }

    private static void ifPlannedNoSuchDoorstep() {
        check.says("Throws IndexOutOfBoundsException if there is no such doorstep (ifPlanned)");
        check.refusesNoSuchDoorstep("ifPlanned", (x, doorstep) -> x.ifPlanned(doorstep));
        DoorstepRounds nobody = Dairies.fresh(5, 0);
        check.dueThrow("ifPlanned(5) with nobody at work", nobody, IndexOutOfBoundsException.class,
            () -> nobody.ifPlanned(5));
        check.due("ifPlanned(4) with nobody at work", -1, () -> nobody.ifPlanned(4));
    }

    private static void reasonNoSuchDoorstep() {
        check.says("Throws IndexOutOfBoundsException if there is no such doorstep (reason)");
        check.refusesNoSuchDoorstep("reason", (x, doorstep) -> x.reason(doorstep));
        DoorstepRounds nobody = Dairies.fresh(5, 0);
        check.dueThrow("reason(5) with nobody at work", nobody, IndexOutOfBoundsException.class,
            () -> nobody.reason(5));
        check.due("reason(4) with nobody at work", 1, () -> nobody.reason(4));
    }

    private static void itWouldStay() {
        check.says("Returns 0 it would stay");
        reasons("even rounds", Dairies.freshAndShared(20, 6), Dairies.same(20, 0));
        reasons("as many as the quota", Dairies.owned(row(0, 1), row(1, 2, 3), row(0, 0, N)), 0, 0, 2);
        reasons("kept of a great round", Dairies.owned(row(0, 1), row(1, 2), row(0, 0)), 3, 0);
    }

    private static void reasonNobodyAtWork() {
        check.says("1 nobody is at work");
        reasons("never anybody", Dairies.fresh(20, 0), Dairies.same(20, 1));
        DoorstepRounds x = Dairies.freshAndShared(2, 1);
        x.leave(0);
        reasons("the last one has left", x, 1, 1);
        x.come(5);
        reasons("one is at work again", x, 2, 2);
    }

    private static void nobodysWouldBeGivenOut() {
        check.says("2 it belongs to nobody and would be given out");
        reasons("all of them", Dairies.fresh(20, 1), Dairies.same(20, 2));
        reasons("one of them", Dairies.owned(row(5), row(1, 1, 1), row(5, N, 5)), 0, 2, 0);
    }

    private static void wouldBeTaken() {
        check.says("3 it would be taken from a milkman whose round is greater than his quota, "
            + "and given to another one");
        DoorstepRounds x = Dairies.freshAndShared(20, 1);
        x.come(1);
        reasons("the last ten", x, 0, 0, 0, 0, 0, 0, 0, 0, 0, 0, 3, 3, 3, 3, 3, 3, 3, 3, 3, 3);
        DoorstepRounds y = Dairies.owned(row(0, 1, 2), row(1, 1, 2, 2, 3, 3, 4, 4, 9), row(0, 1, 0, 1, 0, 1, 0, 1, N));
        reasons("two who give up", y, 3, 3, 0, 0, 0, 0, 0, 0, 2);
    }

    private static void reasonInHandover() {
        check.says("Tells why sharing out now would, or would not, change a doorstep (in a handover)");
        reasons("before the first step", Dairies.beforeFirstStep(), 3, 0, 0, 0, 2);
        reasons("before the second step", Dairies.beforeSecondStep(), 2, 0, 0, 0, 2);
        reasons("behind it", Dairies.behindHandover(), 0, 0, 0, 0, 0);
        reasons("behind callOff()", Dairies.calledOff(), 3, 0, 0, 0, 2);
    }

    private static void changesToComeOfPlan() {
        check.says("Returns the number of changes that sharing out now would have");
        check.due("no doorsteps", 0, () -> Dairies.fresh(0, 1).changesToCome());
        check.due("even rounds", 0, () -> Dairies.freshAndShared(20, 6).changesToCome());
        check.due("all of them", 20, () -> Dairies.fresh(20, 6).changesToCome());
        DoorstepRounds x = Dairies.freshAndShared(20, 1);
        x.come(5);
        check.due("half of them", 10, () -> x.changesToCome());
        check.due("plan()", 10, () -> x.plan());
    }

    private static void changesToComeNobodyAtWork() {
        check.says("NONE if nobody is at work (changesToCome)");
        check.due("a new object", -1, () -> new DoorstepRounds().changesToCome());
        check.due("20 doorsteps", -1, () -> Dairies.fresh(20, 0).changesToCome());
        DoorstepRounds x = Dairies.freshAndShared(1, 1);
        x.leave(0);
        check.due("the last one has left", -1, () -> x.changesToCome());
    }

    private static void changesToComeInHandover() {
        check.says("Returns the number of changes that sharing out now would have (in a handover)");
        check.due("before the first step", 2, () -> Dairies.beforeFirstStep().changesToCome());
        check.due("before the second step", 2, () -> Dairies.beforeSecondStep().changesToCome());
        check.due("behind it", 0, () -> Dairies.behindHandover().changesToCome());
        check.due("behind callOff()", 2, () -> Dairies.calledOff().changesToCome());
        DoorstepRounds x = Dairies.owned(row(0, 1, 2), row(1, 1, 2, 2, 3, 3, 4, 4, 9), row(0, 1, 0, 1, 0, 1, 0, 1, N));
        x.plan();
        check.due("two that move, and one that is nobody's", 3, () -> x.changesToCome());
        x.handOver();
        check.due("three that are nobody's", 3, () -> x.changesToCome());
        x.setPints(8, 1);
        check.due("other pints", 3, () -> x.changesToCome());
    }

    private static void comesIfNotAtWork() {
        check.says("he comes if he is not at work");
        changesIf("nobody is at work", Dairies.fresh(20, 0), Dairies.same(6, 20));
        DoorstepRounds x = Dairies.freshAndShared(20, 5);
        check.due("changesIf(5), the sixth", 3, () -> x.changesIf(5));
        x.come(5);
        check.due("plan() when he has come", 3, () -> x.plan());
        changesIf("no doorsteps", new DoorstepRounds(), Dairies.same(6, 0));
        DoorstepRounds even = Dairies.owned(row(1, 2), row(1, 2), row(1, 2));
        changesIf("more milkmen than doorsteps", even, 0, 1, 1, 0, 0, 0);
    }

    private static void leavesIfAtWork() {
        check.says("and leaves if he is");
        DoorstepRounds x = Dairies.freshAndShared(20, 6);
        changesIf("of six", x, 4, 4, 3, 3, 3, 3);
        check.due("isAtWork(0) stays", 1, () -> x.isAtWork(0) ? 1 : 0);
        check.due("size(0) stays", 4, () -> x.size(0));
        x.leave(0);
        check.due("plan() when he has left", 4, () -> x.plan());
        DoorstepRounds y = Dairies.owned(row(0, 1), row(1, 2, 3), row(0, N, N));
        // nobody's doorsteps count beside those of him who leaves
        changesIf("nobody's doorsteps", y, 3, 2);
    }

    private static void nobodyWouldBeAtWork() {
        check.says("NONE if nobody would be at work");
        DoorstepRounds x = Dairies.freshAndShared(20, 1);
        changesIf("the only one", x, -1, 10, 10, 10, 10, 10);
        changesIf("the only one, no doorsteps", Check.dairy(row(5)), 0, 0, 0, 0, 0, -1);
        x.come(3);
        changesIf("one of two", x, 20, 13, 13, 0, 13, 13);
    }

    private static void changesIfInHandover() {
        check.says("(A handover does not matter for this.)");
        // 0 has 1 to 3 and 1 has none: if 0 left, 1 would get all five
        changesIf("before the second step", Dairies.beforeSecondStep(), 5, 2, 3, 3, 3, 3);
        changesIf("before the first step", Dairies.beforeFirstStep(), 5, 1, 3, 3, 3, 3);
        DoorstepRounds only = Dairies.fresh(2, 1);
        only.plan();
        changesIf("the only one in a handover", only, -1, 2, 2, 2, 2, 2);
        check.due("handover() stays", 1, () -> only.handover());
    }

    private static void noSuchMilkman() {
        check.says("Throws IndexOutOfBoundsException if there is no such milkman (changesIf)");
        check.refusesNoSuchMilkman("changesIf", (x, milkman) -> x.changesIf(milkman));
        DoorstepRounds x = Dairies.freshAndShared(7, 6);
        check.due("changesIf(0)", 2, () -> x.changesIf(0));
        check.due("changesIf(5)", 1, () -> x.changesIf(5));
    }

    private static void greatestMinusLeast() {
        check.says("Returns the size of the greatest round of the milkmen at work minus that of the least one");
        DoorstepRounds x = Dairies.freshAndShared(4, 2);
        check.dueDouble("even, and four who are not at work", 0.0, () -> x.unevenness());
        x.come(5);
        check.dueDouble("2, 2 and 0", 0.5, () -> x.unevenness());
        DoorstepRounds three = Dairies.owned(row(0, 3, 5), row(9, 1, 1, 1, 1, 1, 1, 1), row(0, 3, 3, 3, 5, 5, N, N));
        check.dueDouble("1, 3 and 2 of 8, by size and not by load", 0.25, () -> three.unevenness());
        check.dueDouble("0 and 0 of 3, all are nobody's", 0.0, () -> Dairies.fresh(3, 2).unevenness());
        check.dueDouble("0 of 20, all are nobody's", 0.0, () -> Dairies.fresh(20, 1).unevenness());
    }

    private static void dividedByDoorsteps() {
        check.says("as a double, divided by the number of doorsteps, as a double");
        DoorstepRounds all = Dairies.freshAndShared(20, 1);
        all.come(5);
        check.dueDouble("20 and 0 of 20", 1.0, () -> all.unevenness());
        check.dueDouble("4 and 3 of 20", 0.05, () -> Dairies.freshAndShared(20, 6).unevenness());
        check.dueDouble("2 and 1 of 3", 1.0 / 3.0, () -> Dairies.freshAndShared(3, 2).unevenness());
        check.dueDouble("4 and 3 of 7", 1.0 / 7.0, () -> Dairies.freshAndShared(7, 2).unevenness());
        DoorstepRounds x = Dairies.owned(row(0, 1), row(1, 1, 1), row(0, 0, N));
        check.dueDouble("2 and 0 of 3, one is nobody's", 2.0 / 3.0, () -> x.unevenness());
    }

    private static void unevennessIsZero() {
        check.says("0.0 if nobody is at work, or there are no doorsteps");
        check.dueDouble("a new object", 0.0, () -> new DoorstepRounds().unevenness());
        check.dueDouble("nobody at work", 0.0, () -> Dairies.fresh(20, 0).unevenness());
        check.dueDouble("no doorsteps", 0.0, () -> Dairies.fresh(0, 6).unevenness());
        DoorstepRounds x = Dairies.freshAndShared(1, 2);
        check.dueDouble("1 and 0 of 1", 1.0, () -> x.unevenness());
        x.removeDoorstep(0);
        check.dueDouble("the last doorstep is gone", 0.0, () -> x.unevenness());
        check.dueDouble("one at work, who has all", 0.0, () -> Dairies.freshAndShared(20, 1).unevenness());
    }

    private static void unevennessInHandover() {
        check.says("Returns how uneven the rounds are (in a handover)");
        check.dueDouble("4 and 0 of 5", 0.8, () -> Dairies.beforeFirstStep().unevenness());
        check.dueDouble("3 and 0 of 5", 0.6, () -> Dairies.beforeSecondStep().unevenness());
        check.dueDouble("3 and 2 of 5", 0.2, () -> Dairies.behindHandover().unevenness());
        check.dueDouble("4 and 0 of 5 again", 0.8, () -> Dairies.calledOff().unevenness());
    }
}
