/** 'Doorsteps, milkmen' and promises 1 to 12: a test for each sentence that names an edge. */
public final class DoorstepsEdgesTest {
    private static final Check check = new Check("DoorstepsEdgesTest");
    private static final int[] NO_PINTS = {0, 10, -1, -9, 11, Integer.MIN_VALUE, Integer.MAX_VALUE};

    public static void main(String[] args) {
        check.each(
            DoorstepsEdgesTest::atMost20, DoorstepsEdgesTest::numberedInOrder, DoorstepsEdgesTest::pints1To9,
            DoorstepsEdgesTest::milkmen0To5, DoorstepsEdgesTest::atFirstNone,
            DoorstepsEdgesTest::toMilkmanAtWorkOrNobody, DoorstepsEdgesTest::sizeAndLoad,
            DoorstepsEdgesTest::newObject, DoorstepsEdgesTest::addsDoorstepOfNobody,
            DoorstepsEdgesTest::addRefusesPints, DoorstepsEdgesTest::addRefusedInHandoverOrFull,
            DoorstepsEdgesTest::numbersBehindDecrease, DoorstepsEdgesTest::toWhomItBelonged,
            DoorstepsEdgesTest::removeNoSuchDoorstep, DoorstepsEdgesTest::setPintsOfNoSuchDoorstep,
            DoorstepsEdgesTest::pintsOfNoSuchDoorstep, DoorstepsEdgesTest::ownerOfNoSuchDoorstep,
            DoorstepsEdgesTest::removeRefusedInHandover, DoorstepsEdgesTest::setPintsAlsoInHandover,
            DoorstepsEdgesTest::previousPints, DoorstepsEdgesTest::setPintsRefusesPints,
            DoorstepsEdgesTest::numberAtWorkThen, DoorstepsEdgesTest::comeRefused,
            DoorstepsEdgesTest::roundBelongsToNobodyThen, DoorstepsEdgesTest::sizeThatHeHad,
            DoorstepsEdgesTest::leaveRefused, DoorstepsEdgesTest::numberOfDoorsteps,
            DoorstepsEdgesTest::numberOfPints, DoorstepsEdgesTest::numberOfOwner,
            DoorstepsEdgesTest::trueIfHeIs, DoorstepsEdgesTest::sizeZeroIfNotAtWork,
            DoorstepsEdgesTest::loadZeroIfNotAtWork, DoorstepsEdgesTest::comeNoSuchMilkman,
            DoorstepsEdgesTest::leaveNoSuchMilkman, DoorstepsEdgesTest::isAtWorkNoSuchMilkman,
            DoorstepsEdgesTest::sizeOfNoSuchMilkman, DoorstepsEdgesTest::loadOfNoSuchMilkman);
        check.end();
    }

    private static void atMost20() {
        check.says("There are at most 20 doorsteps");
        DoorstepRounds x = Dairies.fresh(19, 0);
        check.due("the 20th addDoorstep(9)", 19, () -> x.addDoorstep(9));
        check.due("doorsteps()", 20, () -> x.doorsteps());
        check.dueThrow("the 21st addDoorstep(9)", x, IllegalStateException.class, () -> x.addDoorstep(9));
        check.due("doorsteps()", 20, () -> x.doorsteps());
        x.removeDoorstep(7);
        check.due("addDoorstep(2) behind a removal", 19, () -> x.addDoorstep(2));
        check.dueThrow("addDoorstep(2) again", x, IllegalStateException.class, () -> x.addDoorstep(2));
        x.undo();
        check.due("addDoorstep(2) behind undo", 19, () -> x.addDoorstep(2));
    }

    private static void numberedInOrder() {
        check.says("numbered from 0 in the order in which they are added");
        DoorstepRounds x = new DoorstepRounds();
        check.due("the first addDoorstep(6)", 0, () -> x.addDoorstep(6));
        check.due("the second addDoorstep(4)", 1, () -> x.addDoorstep(4));
        check.due("the third addDoorstep(8)", 2, () -> x.addDoorstep(8));
        check.due("pints(0)", 6, () -> x.pints(0));
        check.due("pints(1)", 4, () -> x.pints(1));
        check.due("pints(2)", 8, () -> x.pints(2));
    }

    private static void pints1To9() {
        check.says("A doorstep has a number of pints from 1 to 9");
        DoorstepRounds x = new DoorstepRounds();
        for (int pints = 1; pints <= 9; pints++) {
            int added = pints;
            check.due("addDoorstep(" + pints + ")", pints - 1, () -> x.addDoorstep(added));
            check.due("pints(" + (pints - 1) + ")", pints, () -> x.pints(added - 1));
        }
        for (int pints = 9; pints >= 1; pints--) {
            int set = pints;
            x.setPints(4, pints);
            check.due("pints(4) behind setPints(4, " + pints + ")", pints, () -> x.pints(4));
        }
    }

    private static void milkmen0To5() {
        check.says("There are at most 6 milkmen, who have numbers from 0 to 5");
        DoorstepRounds x = new DoorstepRounds();
        check.dueThrow("come(-1)", x, IndexOutOfBoundsException.class, () -> x.come(-1));
        check.dueThrow("come(6)", x, IndexOutOfBoundsException.class, () -> x.come(6));
        for (int milkman = 5; milkman >= 0; milkman--) {
            int came = milkman;
            check.due("come(" + milkman + ")", 6 - milkman, () -> x.come(came));
        }
        check.dueThrow("come(6) when all are at work", x, IndexOutOfBoundsException.class, () -> x.come(6));
        check.dueThrow("leave(6) when all are at work", x, IndexOutOfBoundsException.class, () -> x.leave(6));
    }

    private static void atFirstNone() {
        check.says("a milkman is at work or not, at first none is");
        DoorstepRounds x = new DoorstepRounds();
        for (int milkman = 0; milkman < 6; milkman++) {
            int one = milkman;
            check.due("isAtWork(" + milkman + ")", 0, () -> x.isAtWork(one) ? 1 : 0);
        }
        x.come(3);
        for (int milkman = 0; milkman < 6; milkman++) {
            int one = milkman;
            check.due("isAtWork(" + milkman + ") behind come(3)", one == 3 ? 1 : 0, () -> x.isAtWork(one) ? 1 : 0);
        }
        x.leave(3);
        check.due("isAtWork(3) behind leave(3)", 0, () -> x.isAtWork(3) ? 1 : 0);
    }

    private static void toMilkmanAtWorkOrNobody() {
        check.says("A doorstep belongs to a milkman who is at work, or to nobody");
        DoorstepRounds x = Dairies.fresh(3, 2);
        check.owners("before any sharing out", x, -1, -1, -1);
        Check.share(x);
        check.owners("shared out", x, 0, 1, 0);
        x.leave(0);
        check.owners("0 has left", x, -1, 1, -1);
        x.come(0);
        check.owners("0 has come again, without a round", x, -1, 1, -1);
    }

    private static void sizeAndLoad() {
        check.says("its size is their number, and its load is the sum of their pints");
        DoorstepRounds x = Check.dairy(Dairies.row(5), Dairies.same(20, 9));
        check.due("size(5) of an empty round", 0, () -> x.size(5));
        check.due("load(5) of an empty round", 0, () -> x.load(5));
        Check.share(x);
        check.due("size(5) of all", 20, () -> x.size(5));
        check.due("load(5) of all", 180, () -> x.load(5));
        x.removeDoorstep(19);
        x.setPints(0, 1);
        check.due("size(5) of 19", 19, () -> x.size(5));
        check.due("load(5) of 18 nines and a one", 163, () -> x.load(5));
        DoorstepRounds y = Dairies.beforeSecondStep();
        check.due("size(0) without what is given up", 3, () -> y.size(0));
        check.due("load(0) without what is given up", 9, () -> y.load(0));
        check.due("size(1) before he takes over", 0, () -> y.size(1));
        check.due("load(1) before he takes over", 0, () -> y.load(1));
    }

    private static void newObject() {
        check.says("Creates a dairy without doorsteps, with nobody at work");
        DoorstepRounds x = new DoorstepRounds();
        check.due("doorsteps()", 0, () -> x.doorsteps());
        check.dueThrow("pints(0)", x, IndexOutOfBoundsException.class, () -> x.pints(0));
        check.dueThrow("plan()", x, IllegalStateException.class, () -> x.plan());
        check.dueThrow("undo()", x, IllegalStateException.class, () -> x.undo());
        check.dueThrow("run() of the empty buffer", x, IllegalArgumentException.class, () -> x.run());
        check.due("handover()", 0, () -> x.handover());
        check.due("deliver()", 0, () -> x.deliver());
        check.due("misses()", 0, () -> x.misses());
        check.due("NONE", -1, () -> DoorstepRounds.NONE);
        DoorstepRounds y = Dairies.freshAndShared(4, 2);
        check.due("another object's doorsteps()", 4, () -> y.doorsteps());
        check.due("doorsteps() of the first object", 0, () -> x.doorsteps());
    }

    private static void addsDoorstepOfNobody() {
        check.says("Adds a doorstep that belongs to nobody");
        DoorstepRounds x = Dairies.freshAndShared(2, 1);
        // a doorstep that was removed leaves nothing behind for the next one at its place
        x.removeDoorstep(1);
        check.due("addDoorstep(7)", 1, () -> x.addDoorstep(7));
        check.due("owner(1)", -1, () -> x.owner(1));
        check.due("planned(1)", -1, () -> x.planned(1));
        check.due("size(0)", 1, () -> x.size(0));
    }

    private static void addRefusesPints() {
        check.says("Throws IllegalArgumentException if pints is out of range (addDoorstep)");
        DoorstepRounds x = new DoorstepRounds();
        for (int wrong : NO_PINTS) {
            check.dueThrow("addDoorstep(" + wrong + ")", x, IllegalArgumentException.class, () -> x.addDoorstep(wrong));
        }
        check.due("doorsteps()", 0, () -> x.doorsteps());
    }

    private static void addRefusedInHandoverOrFull() {
        check.says("Throws IllegalStateException if there is a handover, or there are 20 doorsteps");
        for (DoorstepRounds x : handovers()) {
            check.dueThrow("addDoorstep(1)", x, IllegalStateException.class, () -> x.addDoorstep(1));
        }
        for (DoorstepRounds x : handoversThatAreOver()) {
            check.due("addDoorstep(1) without a handover", 5, () -> x.addDoorstep(1));
        }
        DoorstepRounds full = Dairies.freshAndShared(20, 6);
        check.dueThrow("addDoorstep(1) of 20", full, IllegalStateException.class, () -> full.addDoorstep(1));
    }

    private static void numbersBehindDecrease() {
        check.says("Removes a doorstep; the numbers of the doorsteps behind it decrease by 1");
        int[] pints = {1, 2, 3, 4};
        int[] owners = {0, 1, -1, 1};
        removal(0, Dairies.owned(Dairies.row(0, 1), pints, owners), Dairies.row(2, 3, 4), Dairies.row(1, -1, 1));
        removal(1, Dairies.owned(Dairies.row(0, 1), pints, owners), Dairies.row(1, 3, 4), Dairies.row(0, -1, 1));
        removal(2, Dairies.owned(Dairies.row(0, 1), pints, owners), Dairies.row(1, 2, 4), Dairies.row(0, 1, 1));
        removal(3, Dairies.owned(Dairies.row(0, 1), pints, owners), Dairies.row(1, 2, 3), Dairies.row(0, 1, -1));
        DoorstepRounds only = Dairies.freshAndShared(1, 1);
        only.removeDoorstep(0);
        check.due("doorsteps() behind the only one", 0, () -> only.doorsteps());
        check.due("size(0) behind the only one", 0, () -> only.size(0));
        DoorstepRounds full = Dairies.fresh(20, 0);
        full.setPints(19, 9);
        full.removeDoorstep(0);
        check.due("pints(18) of a full dairy's last one", 9, () -> full.pints(18));
        check.dueThrow("pints(19)", full, IndexOutOfBoundsException.class, () -> full.pints(19));
    }

    private static void removal(int removed, DoorstepRounds x, int[] pints, int[] owners) {
        x.removeDoorstep(removed);
        check.due("doorsteps() behind removeDoorstep(" + removed + ")", 3, () -> x.doorsteps());
        check.owners("behind removeDoorstep(" + removed + ")", x, owners);
        for (int i = 0; i < pints.length; i++) {
            int doorstep = i;
            check.due("pints(" + i + ") behind removeDoorstep(" + removed + ")", pints[i], () -> x.pints(doorstep));
        }
    }

    private static void toWhomItBelonged() {
        check.says("Returns to whom it belonged; NONE for nobody");
        DoorstepRounds x = Dairies.owned(Dairies.row(0, 5), Dairies.row(1, 2, 3), Dairies.row(0, 5, -1));
        check.due("removeDoorstep(2)", -1, () -> x.removeDoorstep(2));
        check.due("removeDoorstep(1)", 5, () -> x.removeDoorstep(1));
        check.due("removeDoorstep(0)", 0, () -> x.removeDoorstep(0));
    }

    private static void removeNoSuchDoorstep() {
        check.says("Throws IndexOutOfBoundsException if there is no such doorstep (removeDoorstep)");
        check.refusesNoSuchDoorstep("removeDoorstep", (x, doorstep) -> x.removeDoorstep(doorstep));
        DoorstepRounds full = Dairies.fresh(20, 1);
        check.due("removeDoorstep(19) of 20", -1, () -> full.removeDoorstep(19));
        check.dueThrow("removeDoorstep(19) of 19", full, IndexOutOfBoundsException.class,
            () -> full.removeDoorstep(19));
        DoorstepRounds one = Dairies.fresh(1, 1);
        check.due("removeDoorstep(0) of 1", -1, () -> one.removeDoorstep(0));
        check.dueThrow("removeDoorstep(0) of 0", one, IndexOutOfBoundsException.class, () -> one.removeDoorstep(0));
    }

    private static void setPintsOfNoSuchDoorstep() {
        check.says("Throws IndexOutOfBoundsException if there is no such doorstep (setPints)");
        check.refusesNoSuchDoorstep("setPints", (x, doorstep) -> x.setPints(doorstep, 1));
        DoorstepRounds full = Dairies.fresh(20, 1);
        check.due("setPints(19, 4) of 20", 1, () -> full.setPints(19, 4));
        check.due("setPints(0, 4)", 1, () -> full.setPints(0, 4));
    }

    private static void pintsOfNoSuchDoorstep() {
        check.says("Throws IndexOutOfBoundsException if there is no such doorstep (pints)");
        check.refusesNoSuchDoorstep("pints", (x, doorstep) -> x.pints(doorstep));
        DoorstepRounds full = Dairies.fresh(20, 1);
        check.due("pints(19) of 20", 1, () -> full.pints(19));
        check.due("pints(0)", 1, () -> full.pints(0));
    }

    private static void ownerOfNoSuchDoorstep() {
        check.says("Throws IndexOutOfBoundsException if there is no such doorstep (owner)");
        check.refusesNoSuchDoorstep("owner", (x, doorstep) -> x.owner(doorstep));
        DoorstepRounds full = Dairies.freshAndShared(20, 1);
        check.due("owner(19) of 20", 0, () -> full.owner(19));
        check.due("owner(0)", 0, () -> full.owner(0));
    }

    private static void removeRefusedInHandover() {
        check.says("Throws IllegalStateException if there is a handover (removeDoorstep)");
        for (DoorstepRounds x : handovers()) {
            for (int doorstep : new int[] {0, 4}) {
                check.dueThrow("removeDoorstep(" + doorstep + ")", x, IllegalStateException.class,
                    () -> x.removeDoorstep(doorstep));
            }
        }
        DoorstepRounds over = Dairies.behindHandover();
        check.due("removeDoorstep(0) behind the handover", 1, () -> over.removeDoorstep(0));
        DoorstepRounds calledOff = Dairies.calledOff();
        check.due("removeDoorstep(0) behind callOff()", 0, () -> calledOff.removeDoorstep(0));
    }

    private static void setPintsAlsoInHandover() {
        check.says("Changes the pints of a doorstep (also during a handover; the plan stays)");
        DoorstepRounds x = Check.dairy(Dairies.row(0, 1), 9, 1);
        x.plan();
        check.planned("the plan", x, 0, 1);
        check.due("setPints(0, 1) before the first step", 9, () -> x.setPints(0, 1));
        check.due("setPints(1, 9) before the first step", 1, () -> x.setPints(1, 9));
        check.due("ifPlanned(0) is another one", 1, () -> x.ifPlanned(0));
        check.planned("the plan stays", x, 0, 1);
        check.due("handOver() stays at its step", 0, () -> x.handOver());
        check.due("setPints(0, 2) before the second step", 1, () -> x.setPints(0, 2));
        check.due("handover()", 2, () -> x.handover());
        check.planned("the plan stays before the second step", x, 0, 1);
        check.due("handOver()", 2, () -> x.handOver());
        check.owners("by the plan", x, 0, 1);
        check.due("load(0)", 2, () -> x.load(0));
        check.due("load(1)", 9, () -> x.load(1));
    }

    private static void previousPints() {
        check.says("Returns the previous number of pints");
        DoorstepRounds x = Dairies.fresh(2, 0);
        check.due("setPints(0, 9)", 1, () -> x.setPints(0, 9));
        check.due("setPints(0, 9) of nine", 9, () -> x.setPints(0, 9));
        check.due("setPints(0, 1)", 9, () -> x.setPints(0, 1));
        check.due("pints(0)", 1, () -> x.pints(0));
        check.due("pints(1), the one beside it", 1, () -> x.pints(1));
    }

    private static void setPintsRefusesPints() {
        check.says("Throws IllegalArgumentException if pints is out of range (setPints)");
        DoorstepRounds x = Dairies.fresh(2, 1);
        DoorstepRounds y = Dairies.beforeSecondStep();
        for (int wrong : NO_PINTS) {
            check.dueThrow("setPints(1, " + wrong + ")", x, IllegalArgumentException.class, () -> x.setPints(1, wrong));
            check.dueThrow("setPints(1, " + wrong + ") in a handover", y, IllegalArgumentException.class,
                () -> y.setPints(1, wrong));
        }
    }

    private static void numberAtWorkThen() {
        check.says("Returns the number of milkmen at work then");
        DoorstepRounds x = new DoorstepRounds();
        int[] order = {3, 0, 5, 1, 4, 2};
        for (int i = 0; i < order.length; i++) {
            int milkman = order[i];
            check.due("come(" + milkman + ")", i + 1, () -> x.come(milkman));
        }
        x.leave(0);
        x.leave(5);
        check.due("come(0) again", 5, () -> x.come(0));
    }

    private static void comeRefused() {
        check.says("Throws IllegalStateException if there is a handover, or he is at work");
        for (DoorstepRounds x : handovers()) {
            check.dueThrow("come(2)", x, IllegalStateException.class, () -> x.come(2));
            check.dueThrow("come(0), who is at work", x, IllegalStateException.class, () -> x.come(0));
        }
        for (DoorstepRounds x : handoversThatAreOver()) {
            check.dueThrow("come(0), who is at work, behind it", x, IllegalStateException.class, () -> x.come(0));
            check.due("come(2) behind it", 3, () -> x.come(2));
        }
        DoorstepRounds all = Dairies.fresh(0, 6);
        for (int milkman = 0; milkman < 6; milkman++) {
            int one = milkman;
            check.dueThrow("come(" + one + ") again", all, IllegalStateException.class, () -> all.come(one));
        }
    }

    private static void roundBelongsToNobodyThen() {
        check.says("A milkman leaves; the doorsteps of his round belong to nobody then");
        DoorstepRounds x = Dairies.owned(Dairies.row(0, 5), Dairies.row(1, 1, 1, 1), Dairies.row(0, 5, -1, 0));
        x.leave(0);
        check.owners("0 has left", x, -1, 5, -1, -1);
        check.due("isAtWork(0)", 0, () -> x.isAtWork(0) ? 1 : 0);
        check.due("isAtWork(5)", 1, () -> x.isAtWork(5) ? 1 : 0);
        x.leave(5);
        check.owners("5 has left too", x, -1, -1, -1, -1);
        check.due("doorsteps()", 4, () -> x.doorsteps());
    }

    private static void sizeThatHeHad() {
        check.says("Returns the size of the round that he had");
        DoorstepRounds x = Dairies.freshAndShared(20, 1);
        x.come(4);
        check.due("leave(4), who has no round", 0, () -> x.leave(4));
        check.due("leave(0), who has all", 20, () -> x.leave(0));
        x.come(0);
        check.due("leave(0) again", 0, () -> x.leave(0));
    }

    private static void leaveRefused() {
        check.says("Throws IllegalStateException if there is a handover, or he is not at work");
        for (DoorstepRounds x : handovers()) {
            check.dueThrow("leave(0)", x, IllegalStateException.class, () -> x.leave(0));
            check.dueThrow("leave(3), who is not at work", x, IllegalStateException.class, () -> x.leave(3));
        }
        for (DoorstepRounds x : handoversThatAreOver()) {
            int size = x.size(0);
            check.due("leave(0) behind it", size, () -> x.leave(0));
            check.dueThrow("leave(0) again", x, IllegalStateException.class, () -> x.leave(0));
        }
        DoorstepRounds none = new DoorstepRounds();
        for (int milkman = 0; milkman < 6; milkman++) {
            int one = milkman;
            check.dueThrow("leave(" + one + ") of nobody", none, IllegalStateException.class, () -> none.leave(one));
        }
    }

    private static void numberOfDoorsteps() {
        check.says("Returns the number of doorsteps");
        DoorstepRounds x = new DoorstepRounds();
        check.due("doorsteps() of a new object", 0, () -> x.doorsteps());
        for (int count = 1; count <= 20; count++) {
            int want = count;
            x.addDoorstep(1);
            check.due("doorsteps() behind addDoorstep(1)", want, () -> x.doorsteps());
        }
        for (int count = 19; count >= 0; count--) {
            int want = count;
            x.removeDoorstep(count / 2);
            check.due("doorsteps() behind removeDoorstep(" + count / 2 + ")", want, () -> x.doorsteps());
        }
    }

    private static void numberOfPints() {
        check.says("Returns the number of pints (of a doorstep)");
        DoorstepRounds x = Dairies.owned(Dairies.row(0, 1), Dairies.row(9, 1, 8), Dairies.row(0, 1, -1));
        check.due("pints(0)", 9, () -> x.pints(0));
        check.due("pints(1)", 1, () -> x.pints(1));
        check.due("pints(2) of nobody's", 8, () -> x.pints(2));
        x.leave(0);
        check.due("pints(0) when 0 has left", 9, () -> x.pints(0));
    }

    private static void numberOfOwner() {
        check.says("Returns the number of the milkman; NONE for nobody");
        check.due("NONE", -1, () -> DoorstepRounds.NONE);
        int[] owners = {5, -1, 0};
        check.owners("all kinds", Dairies.owned(Dairies.row(0, 5), Dairies.row(1, 1, 1), owners), owners);
        check.owners("before the second step", Dairies.beforeSecondStep(), -1, 0, 0, 0, -1);
        check.owners("nobody at work", Dairies.fresh(2, 0), -1, -1);
    }

    private static void trueIfHeIs() {
        check.says("Tells whether a milkman is at work. Returns true if he is");
        DoorstepRounds x = Check.dairy(Dairies.row(0, 2, 5));
        int[] want = {1, 0, 1, 0, 0, 1};
        for (int milkman = 0; milkman < 6; milkman++) {
            int one = milkman;
            check.due("isAtWork(" + milkman + ")", want[milkman], () -> x.isAtWork(one) ? 1 : 0);
        }
        check.due("isAtWork(0) in a handover", 1, () -> Dairies.beforeFirstStep().isAtWork(0) ? 1 : 0);
        check.due("isAtWork(2) in a handover", 0, () -> Dairies.beforeFirstStep().isAtWork(2) ? 1 : 0);
    }

    private static void sizeZeroIfNotAtWork() {
        check.says("Returns the size; 0 if he is not at work");
        DoorstepRounds x = Dairies.freshAndShared(3, 1);
        x.addDoorstep(4);
        check.due("size(0), who is at work", 3, () -> x.size(0));
        check.due("size(1), never at work", 0, () -> x.size(1));
        check.due("size(5), never at work", 0, () -> x.size(5));
        x.leave(0);
        check.due("size(0), who has left", 0, () -> x.size(0));
    }

    private static void loadZeroIfNotAtWork() {
        check.says("Returns the load; 0 if he is not at work");
        DoorstepRounds x = Check.dairy(Dairies.row(0), 9, 8);
        Check.share(x);
        x.addDoorstep(4);
        check.due("load(0), who is at work", 17, () -> x.load(0));
        check.due("load(1), never at work", 0, () -> x.load(1));
        check.due("load(5), never at work", 0, () -> x.load(5));
        x.leave(0);
        check.due("load(0), who has left", 0, () -> x.load(0));
    }

    private static void comeNoSuchMilkman() {
        check.says("Throws IndexOutOfBoundsException if there is no such milkman (come)");
        check.refusesNoSuchMilkman("come", (x, milkman) -> x.come(milkman));
        DoorstepRounds x = new DoorstepRounds();
        check.due("come(0)", 1, () -> x.come(0));
        check.due("come(5)", 2, () -> x.come(5));
    }

    private static void leaveNoSuchMilkman() {
        check.says("Throws IndexOutOfBoundsException if there is no such milkman (leave)");
        check.refusesNoSuchMilkman("leave", (x, milkman) -> x.leave(milkman));
        DoorstepRounds x = Dairies.freshAndShared(7, 6);
        check.due("leave(0)", 2, () -> x.leave(0));
        check.due("leave(5)", 1, () -> x.leave(5));
    }

    private static void isAtWorkNoSuchMilkman() {
        check.says("Throws IndexOutOfBoundsException if there is no such milkman (isAtWork)");
        check.refusesNoSuchMilkman("isAtWork", (x, milkman) -> x.isAtWork(milkman) ? 1 : 0);
        DoorstepRounds x = Dairies.fresh(0, 6);
        check.due("isAtWork(0)", 1, () -> x.isAtWork(0) ? 1 : 0);
        check.due("isAtWork(5)", 1, () -> x.isAtWork(5) ? 1 : 0);
    }

    private static void sizeOfNoSuchMilkman() {
        check.says("Throws IndexOutOfBoundsException if there is no such milkman (size)");
        check.refusesNoSuchMilkman("size", (x, milkman) -> x.size(milkman));
        DoorstepRounds x = Dairies.freshAndShared(7, 6);
        check.due("size(0)", 2, () -> x.size(0));
        check.due("size(5)", 1, () -> x.size(5));
    }

    private static void loadOfNoSuchMilkman() {
        check.says("Throws IndexOutOfBoundsException if there is no such milkman (load)");
        check.refusesNoSuchMilkman("load", (x, milkman) -> x.load(milkman));
        DoorstepRounds x = Dairies.freshAndShared(7, 6);
        check.due("load(0)", 2, () -> x.load(0));
        check.due("load(5)", 1, () -> x.load(5));
    }

    private static DoorstepRounds[] handovers() {
        return new DoorstepRounds[] {Dairies.beforeFirstStep(), Dairies.beforeSecondStep()};
    }

    private static DoorstepRounds[] handoversThatAreOver() {
        return new DoorstepRounds[] {Dairies.behindHandover(), Dairies.calledOff()};
    }
}
