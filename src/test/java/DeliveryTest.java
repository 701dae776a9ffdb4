/** Promises 19 to 21: deliveries. */
public final class DeliveryTest {
    private static final Check check = new Check("DeliveryTest");

    public static void main(String[] args) {
        DoorstepRounds x = new DoorstepRounds();
        check.due("19: deliver() without doorsteps", 0, () -> x.deliver());
        check.due("19: savedStates()", 1, () -> x.savedStates());
        x.addDoorstep(4);
        x.addDoorstep(5);
        x.addDoorstep(6);
        check.due("19: deliver() with nobody at work", 0, () -> x.deliver());
        check.due("20: delivered()", 0, () -> x.delivered());
        check.due("21: misses()", 3, () -> x.misses());
        x.come(0);
        x.plan();
        check.due("19: deliver() before the first step", 0, () -> x.deliver());
        x.handOver();
        x.handOver();
        check.due("19: deliver()", 15, () -> x.deliver());
        check.due("20: delivered()", 15, () -> x.delivered());
        check.due("21: misses()", 6, () -> x.misses());
        x.addDoorstep(9);
        check.due("19: deliver() with one that is nobody's", 15, () -> x.deliver());
        check.due("21: misses()", 7, () -> x.misses());
        duringHandover(x);
        check.end();
    }

    private static void duringHandover(DoorstepRounds x) {
        x.come(1);
        x.plan();
        check.due("14: given up", 1, () -> x.handOver());
        // 0 keeps 6 and 5; 4 is given up, and 9 is nobody's still
        check.due("19: deliver() before the second step", 11, () -> x.deliver());
        check.due("20: delivered()", 41, () -> x.delivered());
        check.due("21: misses()", 9, () -> x.misses());
        check.due("19: undo()", 5, () -> x.undo());
        check.due("20: delivered() behind undo", 30, () -> x.delivered());
        check.due("21: misses() behind undo", 7, () -> x.misses());
        x.setPints(1, 1);
        check.due("19: deliver() of other pints", 7, () -> x.deliver());
        x.handOver();
        check.due("19: deliver() behind the handover", 20, () -> x.deliver());
        check.due("20: delivered()", 57, () -> x.delivered());
        check.due("21: misses()", 9, () -> x.misses());
    }
}
