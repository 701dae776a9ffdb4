/** Promises 22 to 26: forecasts. */
public final class ForecastTest {
    private static final Check check = new Check("ForecastTest");

    public static void main(String[] args) {
        nobodyAtWork();
        ordinary();
        handoverDoesNotMatter();
        changesIf();
        unevenness();
        changeNothing();
        check.end();
    }

    private static void forecasts(String what, DoorstepRounds x, int[] owners, int[] reasons) {
        for (int i = 0; i < owners.length; i++) {
            int doorstep = i;
            check.due("22: " + what + ", ifPlanned(" + i + ")", owners[i], () -> x.ifPlanned(doorstep));
            check.due("23: " + what + ", reason(" + i + ")", reasons[i], () -> x.reason(doorstep));
        }
    }

    private static void nobodyAtWork() {
        DoorstepRounds x = Check.dairy(Check.milkmen(), 3, 4);
        forecasts("nobody at work", x, new int[] {-1, -1}, new int[] {1, 1});
        check.due("24: nobody at work", -1, () -> x.changesToCome());
        check.due("25: one would come", 2, () -> x.changesIf(5));
        x.come(5);
        check.due("24: one at work", 2, () -> x.changesToCome());
        check.due("25: he would leave", -1, () -> x.changesIf(5));
        Check.share(x);
        check.due("24: shared out", 0, () -> x.changesToCome());
        x.leave(5);
        forecasts("nobody at work again", x, new int[] {-1, -1}, new int[] {1, 1});
        DoorstepRounds y = Check.dairy(Check.milkmen(0));
        check.due("24: no doorsteps", 0, () -> y.changesToCome());
        check.due("25: no doorsteps, he would leave", -1, () -> y.changesIf(0));
        check.due("25: no doorsteps, another one", 0, () -> y.changesIf(1));
    }

    private static void ordinary() {
        DoorstepRounds x = Check.dairy(Check.milkmen(0), 3, 8, 3, 8);
        Check.share(x);
        x.come(1);
        x.addDoorstep(5);
        // quotas 3 and 2; 0 keeps 8, 8, 3; then 5 and 3 go to 1
        forecasts("ordinary", x, new int[] {0, 0, 1, 0, 1}, new int[] {0, 0, 3, 0, 2});
        check.due("24: ordinary", 2, () -> x.changesToCome());
        // a forecast does not stay from the one before it
        check.due("25: the other one leaves", 1, () -> x.changesIf(1));
        check.due("23: reason(2) behind it", 3, () -> x.reason(2));
        check.due("25: the other one leaves", 1, () -> x.changesIf(1));
        check.due("22: ifPlanned(2) behind it", 1, () -> x.ifPlanned(2));
        for (int wrong : new int[] {-1, 5, Integer.MIN_VALUE, Integer.MAX_VALUE}) {
            String end = "(" + wrong + ")";
            check.dueThrow("22: ifPlanned" + end, x, IndexOutOfBoundsException.class, () -> x.ifPlanned(wrong));
            check.dueThrow("23: reason" + end, x, IndexOutOfBoundsException.class, () -> x.reason(wrong));
        }
    }

    private static void handoverDoesNotMatter() {
        DoorstepRounds x = Check.dairy(Check.milkmen(0), 1, 2, 3, 4);
        Check.share(x);
        x.come(1);
        x.plan();
        forecasts("before the first step", x, new int[] {1, 1, 0, 0}, new int[] {3, 3, 0, 0});
        check.due("24: before the first step", 2, () -> x.changesToCome());
        x.handOver();
        forecasts("before the second step", x, new int[] {1, 1, 0, 0}, new int[] {2, 2, 0, 0});
        check.due("24: before the second step", 2, () -> x.changesToCome());
        check.due("25: leaves in a handover", 4, () -> x.changesIf(0));
        check.due("25: leaves in a handover", 2, () -> x.changesIf(1));
        // quotas 0: 2, 1: 1, 2: 1; 2 to 1, 1 to 2
        check.due("25: comes in a handover", 2, () -> x.changesIf(2));
        x.setPints(0, 9);
        check.due("24: other pints", 2, () -> x.changesToCome());
        check.due("16: handover() stays", 2, () -> x.handover());
    }

    private static void changesIf() {
        DoorstepRounds x = Check.dairy(Check.milkmen(0, 1), 1, 1, 1, 1, 1, 1);
        Check.share(x);
        check.due("25: a third one comes", 2, () -> x.changesIf(2));
        check.due("25: one of two leaves", 3, () -> x.changesIf(0));
        check.due("25: the other one leaves", 3, () -> x.changesIf(1));
        check.due("24: nothing was changed", 0, () -> x.changesToCome());
        x.come(2);
        check.due("25: leaves without a round", 0, () -> x.changesIf(2));
        check.due("25: a fourth one comes", 2, () -> x.changesIf(5));
        check.due("11: size(0) stays", 3, () -> x.size(0));
        for (int wrong : new int[] {-1, 6, Integer.MIN_VALUE, Integer.MAX_VALUE}) {
            check.dueThrow("25: changesIf(" + wrong + ")", x, IndexOutOfBoundsException.class, () -> x.changesIf(wrong));
        }
    }

    private static void unevenness() {
        DoorstepRounds x = new DoorstepRounds();
        check.dueDouble("26: nothing at all", 0.0, () -> x.unevenness());
        x.come(3);
        check.dueDouble("26: no doorsteps", 0.0, () -> x.unevenness());
        x.addDoorstep(2);
        x.addDoorstep(2);
        x.addDoorstep(2);
        check.dueDouble("26: empty rounds", 0.0, () -> x.unevenness());
        Check.share(x);
        check.dueDouble("26: one round", 0.0, () -> x.unevenness());
        x.come(0);
        check.dueDouble("26: 3 and 0", 1.0, () -> x.unevenness());
        Check.share(x);
        check.dueDouble("26: 2 and 1", 1.0 / 3.0, () -> x.unevenness());
        x.addDoorstep(7);
        check.dueDouble("26: 2 and 1 of 4", 0.25, () -> x.unevenness());
        x.leave(0);
        check.dueDouble("26: one round again", 0.0, () -> x.unevenness());
        x.leave(3);
        check.dueDouble("26: nobody at work", 0.0, () -> x.unevenness());
        DoorstepRounds y = Check.dairy(Check.milkmen(1, 2), 6);
        Check.share(y);
        check.dueDouble("26: 1 and 0 of 1", 1.0, () -> y.unevenness());
        y.come(0);
        y.plan();
        check.dueDouble("26: no changes, no handover", 1.0, () -> y.unevenness());
        y.addDoorstep(3);
        y.addDoorstep(3);
        y.removeDoorstep(0);
        check.dueDouble("26: empty rounds again", 0.0, () -> y.unevenness());
    }

    private static void changeNothing() {
        DoorstepRounds x = Check.dairy(Check.milkmen(0, 3), 4, 1, 6);
        Check.share(x);
        x.come(1);
        long digest = x.digest();
        int saved = x.savedStates();
        for (int m = 0; m < 6; m++) {
            x.changesIf(m);
        }
        x.changesToCome();
        x.unevenness();
        for (int i = 0; i < 3; i++) {
            x.ifPlanned(i);
            x.reason(i);
        }
        check.due("33: digest() stays", digest, () -> x.digest());
        check.due("32: savedStates() stays", saved, () -> x.savedStates());
    }
}
