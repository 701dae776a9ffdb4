/** Promises 31 to 33: undo, saved states and the digest. */
public final class UndoTest {
    private static final Check check = new Check("UndoTest");

    public static void main(String[] args) {
        atMostSixStates();
        everyUndoable();
        notUndoable();
        digestOfNew();
        digestByHand();
        check.end();
    }

    private static void atMostSixStates() {
        DoorstepRounds x = new DoorstepRounds();
        check.dueThrow("31: undo() of nothing", x, IllegalStateException.class, () -> x.undo());
        for (int i = 1; i <= 9; i++) {
            x.addDoorstep(i);
            check.due("32: savedStates()", Math.min(6, i), () -> x.savedStates());
        }
        for (int left = 5; left >= 0; left--) {
            check.due("31: undo()", left, () -> x.undo());
            check.due("7: doorsteps() behind undo", 3 + left, () -> x.doorsteps());
            check.due("32: savedStates() behind undo", left, () -> x.savedStates());
        }
        check.dueThrow("31: undo() of the oldest", x, IllegalStateException.class, () -> x.undo());
        x.addDoorstep(9);
        check.due("31: undo() again", 0, () -> x.undo());
        check.due("7: doorsteps()", 3, () -> x.doorsteps());
    }

    private static void undoes(String what, DoorstepRounds x, Runnable call) {
        int saved = x.savedStates();
        long digest = x.digest();
        call.run();
        check.due("32: savedStates() behind " + what, Math.min(6, saved + 1), () -> x.savedStates());
        check.due("31: undo() of " + what, Math.min(5, saved), () -> x.undo());
        check.due("33: digest() behind undo of " + what, digest, () -> x.digest());
        call.run();
    }

    private static void everyUndoable() {
        DoorstepRounds x = new DoorstepRounds();
        undoes("addDoorstep", x, () -> x.addDoorstep(3));
        undoes("addDoorstep", x, () -> x.addDoorstep(4));
        undoes("come", x, () -> x.come(1));
        undoes("setPints", x, () -> x.setPints(0, 6));
        undoes("plan", x, () -> x.plan());
        undoes("handOver", x, () -> x.handOver());
        undoes("deliver", x, () -> x.deliver());
        undoes("handOver", x, () -> x.handOver());
        undoes("plan without changes", x, () -> x.plan());
        undoes("deliver", x, () -> x.deliver());
        undoes("come", x, () -> x.come(2));
        undoes("plan", x, () -> x.plan());
        undoes("handOver", x, () -> x.handOver());
        undoes("callOff", x, () -> x.callOff());
        undoes("leave", x, () -> x.leave(1));
        undoes("removeDoorstep", x, () -> x.removeDoorstep(0));
        undoes("setPints to the same", x, () -> x.setPints(0, 4));
        undoes("run", x, () -> {
            Check.write(x, "d;+7;p");
            x.run();
        });
    }

    private static void notUndoable() {
        DoorstepRounds x = Check.dairy(Check.milkmen(0), 5);
        int saved = x.savedStates();
        x.append('p');
        x.firstError();
        x.clearText();
        x.doorsteps();
        x.pints(0);
        x.owner(0);
        x.isAtWork(0);
        x.size(0);
        x.load(0);
        x.handover();
        x.planned(0);
        x.changed();
        x.delivered();
        x.misses();
        x.ifPlanned(0);
        x.reason(0);
        x.changesToCome();
        x.changesIf(0);
        x.unevenness();
        x.digest();
        check.due("32: savedStates() stays", saved, () -> x.savedStates());
        check.due("31: undo()", saved - 1, () -> x.undo());
    }

    private static long hash(long... values) {
        long hash = 4756;
        for (long value : values) {
            hash = 31 * hash + value;
        }
        return hash;
    }

    private static void digestOfNew() {
        DoorstepRounds x = new DoorstepRounds();
        long want = hash(0, 0, 0, 0, 0, -1,
            0, 0, 0, 0, 0, 0, 0, 0, 0, 0, 0, 0, 0, 0, 0, 0, 0, 0, 0, 0, 0, 0, 0, 0);
        check.due("33: digest() of a new one", want, () -> x.digest());
        x.append('d');
        check.due("33: the buffer does not matter", want, () -> x.digest());
        x.run();
        check.due("33: nor do saved states", want, () -> x.digest());
        x.addDoorstep(2);
        // nobody at work: each one who would come would get it
        long one = hash(1, 0, 0, 0, 0, -1,
            0, 0, 0, 1, 0, 0, 0, 1, 0, 0, 0, 1, 0, 0, 0, 1, 0, 0, 0, 1, 0, 0, 0, 1, 2, -1, -1, -1, 1);
        check.due("33: digest() with a doorstep", one, () -> x.digest());
    }

    private static void digestByHand() {
        DoorstepRounds x = Check.dairy(Check.milkmen(0), 3, 8, 3, 8);
        Check.share(x);
        x.deliver();
        x.addDoorstep(5);
        x.deliver();
        x.come(1);
        x.plan();
        x.handOver();
        // 0 has 0, 1 and 3 (19 pints), 2 and 4 are nobody's and shall be milkman 1's;
        // if 0 left, 1 would get all five; if 1 left, 0 would get two;
        // a third one would get the round of 1 in part: 5 to 1, 3 to him, quotas 2, 2, 1:
        // then 0 gives up one of three: three changes
        long want = hash(5, 2, 4, 44, 1, 2,
            1, 3, 19, 5, 1, 0, 0, 2, 0, 0, 0, 3, 0, 0, 0, 3, 0, 0, 0, 3, 0, 0, 0, 3,
            3, 0, 0, 0, 0,
            8, 0, 0, 0, 0,
            3, -1, 1, 1, 2,
            8, 0, 0, 0, 0,
            5, -1, 1, 1, 2);
        check.due("33: digest() in a handover", want, () -> x.digest());
    }
}
