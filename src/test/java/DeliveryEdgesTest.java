/** 'Deliveries' and promises 19 to 21: a test for each sentence that names an edge. */
public final class DeliveryEdgesTest {
    private static final Check check = new Check("DeliveryEdgesTest");
    private static final int N = Dairies.NONE;

    public static void main(String[] args) {
        check.each(
            DeliveryEdgesTest::toAllOfHisRound, DeliveryEdgesTest::nobodysIsAMiss,
            DeliveryEdgesTest::noDoorsteps, DeliveryEdgesTest::nobodyAtWork,
            DeliveryEdgesTest::pintsThatAreDelivered, DeliveryEdgesTest::deliveredSoFar,
            DeliveryEdgesTest::missesSoFar, DeliveryEdgesTest::duringHandover);
        check.end();
    }

    private static void toAllOfHisRound() {
        check.says("In a delivery each milkman at work delivers to all doorsteps of his round");
        DoorstepRounds full = Check.dairy(Dairies.row(0, 1, 2, 3, 4, 5), Dairies.same(20, 9));
        Check.share(full);
        check.due("deliver() to 20 of 9", 180, () -> full.deliver());
        check.due("misses()", 0, () -> full.misses());
        DoorstepRounds one = Check.dairy(Dairies.row(5), 1);
        Check.share(one);
        check.due("deliver() to 1 of 1", 1, () -> one.deliver());
        one.come(0);
        check.due("deliver() when 0 has no round", 1, () -> one.deliver());
        DoorstepRounds each = Dairies.owned(Dairies.row(0, 5), Dairies.row(1, 2, 4), Dairies.row(0, N, 5));
        check.due("deliver() to 0 and 2", 5, () -> each.deliver());
    }

    private static void nobodysIsAMiss() {
        check.says("A doorstep that belongs to nobody gets nothing; this is a miss");
        DoorstepRounds x = Dairies.owned(Dairies.row(0), Dairies.row(9, 1, 8, 7), Dairies.row(N, 0, N, N));
        check.due("deliver()", 1, () -> x.deliver());
        check.due("misses(), one each", 3, () -> x.misses());
        check.due("delivered()", 1, () -> x.delivered());
        x.removeDoorstep(1);
        check.due("deliver() when all are nobody's", 0, () -> x.deliver());
        check.due("misses()", 6, () -> x.misses());
        x.removeDoorstep(0);
        check.due("misses() stay when a doorstep goes", 6, () -> x.misses());
    }

    private static void noDoorsteps() {
        check.says("Makes a delivery (to no doorsteps at all)");
        DoorstepRounds x = Dairies.fresh(0, 3);
        check.due("deliver()", 0, () -> x.deliver());
        check.due("delivered()", 0, () -> x.delivered());
        check.due("misses()", 0, () -> x.misses());
        check.due("savedStates()", 4, () -> x.savedStates());
        DoorstepRounds y = new DoorstepRounds();
        check.due("deliver() of a new object", 0, () -> y.deliver());
        check.due("misses()", 0, () -> y.misses());
        check.due("savedStates()", 1, () -> y.savedStates());
    }

    private static void nobodyAtWork() {
        check.says("A doorstep that belongs to nobody gets nothing (nobody is at work)");
        DoorstepRounds x = Dairies.fresh(20, 0);
        check.due("deliver()", 0, () -> x.deliver());
        check.due("misses()", 20, () -> x.misses());
        DoorstepRounds y = Dairies.freshAndShared(4, 1);
        y.leave(0);
        check.due("deliver() when he has left", 0, () -> y.deliver());
        check.due("misses()", 4, () -> y.misses());
        y.come(0);
        check.due("deliver() when he has come again", 0, () -> y.deliver());
        check.due("misses()", 8, () -> y.misses());
    }

    private static void pintsThatAreDelivered() {
        check.says("Returns the number of pints that are delivered");
        DoorstepRounds x = Check.dairy(Dairies.row(0, 1), 3, 5);
        Check.share(x);
        check.due("deliver()", 8, () -> x.deliver());
        check.due("deliver() again, not the sum", 8, () -> x.deliver());
        x.setPints(0, 9);
        check.due("deliver() of other pints", 14, () -> x.deliver());
        check.due("delivered() keeps what was", 30, () -> x.delivered());
    }

    private static void deliveredSoFar() {
        check.says("Returns the number of pints that were delivered so far");
        DoorstepRounds x = Check.dairy(Dairies.row(0), Dairies.same(20, 9));
        Check.share(x);
        for (int i = 1; i <= 100; i++) {
            x.deliver();
            int sum = 180 * i;
            check.due("delivered() behind " + i, sum, () -> x.delivered());
        }
        x.leave(0);
        x.deliver();
        x.removeDoorstep(0);
        check.due("delivered() stays", 18000, () -> x.delivered());
        x.undo();
        x.undo();
        x.undo();
        x.undo();
        check.due("delivered() behind undo of a delivery", 17820, () -> x.delivered());
    }

    private static void missesSoFar() {
        check.says("Returns the number of misses so far");
        DoorstepRounds x = Dairies.fresh(20, 0);
        for (int i = 1; i <= 100; i++) {
            x.deliver();
            int sum = 20 * i;
            check.due("misses() behind " + i, sum, () -> x.misses());
        }
        x.come(0);
        Check.share(x);
        x.deliver();
        check.due("misses() stays", 2000, () -> x.misses());
        x.undo();
        x.undo();
        x.undo();
        x.undo();
        x.undo();
        x.undo();
        check.due("misses() behind undo of a delivery", 1980, () -> x.misses());
    }

    private static void duringHandover() {
        check.says("it belongs to nobody then (and gets nothing in a delivery)");
        DoorstepRounds first = Dairies.beforeFirstStep();
        check.due("deliver() before the first step", 10, () -> first.deliver());
        check.due("misses()", 1, () -> first.misses());
        DoorstepRounds second = Dairies.beforeSecondStep();
        check.due("deliver() before the second step", 9, () -> second.deliver());
        check.due("misses()", 2, () -> second.misses());
        check.due("handover() stays", 2, () -> second.handover());
        DoorstepRounds over = Dairies.behindHandover();
        check.due("deliver() behind it", 15, () -> over.deliver());
        check.due("misses()", 0, () -> over.misses());
        DoorstepRounds calledOff = Dairies.calledOff();
        check.due("deliver() behind callOff()", 10, () -> calledOff.deliver());
        check.due("misses()", 1, () -> calledOff.misses());
    }
}
