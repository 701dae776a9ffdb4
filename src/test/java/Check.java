import java.util.function.DoubleSupplier;
import java.util.function.LongSupplier;

/** Counts the calls whose answer is not the one that is due, and prints them. */
final class Check {
    private final String name;
    private String sentence = "";
    private int sentences = 0;
    private int calls = 0;
    private int wrong = 0;

    Check(String name) {
        this.name = name;
    }

    /** The checks that follow look at this sentence of the document. */
    void says(String words) {
        sentence = words;
        sentences++;
    }

    /** One that breaks off is wrong, and does not keep the others from being looked at. */
    void each(Runnable... tests) {
        for (Runnable test : tests) {
            try {
                test.run();
            } catch (RuntimeException | AssertionError e) {
                compare("the test", "broke off with " + e, "nothing");
            }
        }
    }

    void due(String call, long want, LongSupplier made) {
        calls++;
        String got;
        try {
            got = Long.toString(made.getAsLong());
        } catch (RuntimeException e) {
            got = "throws." + e.getClass().getSimpleName();
        }
        compare(call, got, Long.toString(want));
    }

    void dueDouble(String call, double want, DoubleSupplier made) {
        calls++;
        String got;
        try {
            got = Double.toString(made.getAsDouble());
        } catch (RuntimeException e) {
            got = "throws." + e.getClass().getSimpleName();
        }
        compare(call, got, Double.toString(want));
    }

    void dueTrue(String what, boolean holds) {
        calls++;
        compare(what, Boolean.toString(holds), "true");
    }

    /** The call throws exactly this exception, and nothing that can be asked for changes. */
    void dueThrow(String call, DoorstepRounds x, Class<? extends RuntimeException> want, LongSupplier made) {
        calls++;
        long digest = x.digest();
        int saved = x.savedStates();
        int error = x.firstError();
        String got;
        try {
            got = Long.toString(made.getAsLong());
        } catch (RuntimeException e) {
            got = "throws." + e.getClass().getSimpleName();
        }
        compare(call, got, "throws." + want.getSimpleName());
        compare(call + ", digest() behind it", Long.toString(x.digest()), Long.toString(digest));
        compare(call + ", savedStates() behind it", Integer.toString(x.savedStates()), Integer.toString(saved));
        compare(call + ", firstError() behind it", Integer.toString(x.firstError()), Integer.toString(error));
    }

    void compare(String call, String got, String want) {
        if (!got.equals(want)) {
            wrong++;
            String about = sentence.isEmpty() ? "" : "'" + sentence + "': ";
            System.out.println(name + ": " + about + call + " answered " + got + ", due is " + want);
        }
    }

    /** A call that is made with a number. */
    interface Numbered {
        long made(DoorstepRounds x, int number);
    }

    /** The call refuses each number that no doorstep bears: of none, of two that are left of three, and of 20. */
    void refusesNoSuchDoorstep(String call, Numbered numbered) {
        DoorstepRounds two = Dairies.fresh(3, 1);
        two.removeDoorstep(0);
        for (DoorstepRounds x : new DoorstepRounds[] {new DoorstepRounds(), two, Dairies.fresh(20, 1)}) {
            for (int wrong : Dairies.noDoorsteps(x.doorsteps())) {
                String what = call + "(" + wrong + ") of " + x.doorsteps();
                dueThrow(what, x, IndexOutOfBoundsException.class, () -> numbered.made(x, wrong));
            }
        }
        for (int wrong : Dairies.noDoorsteps(5)) {
            DoorstepRounds x = Dairies.beforeSecondStep();
            String what = call + "(" + wrong + ") in a handover";
            dueThrow(what, x, IndexOutOfBoundsException.class, () -> numbered.made(x, wrong));
        }
    }

    /** The call refuses each number that no milkman bears: when all are at work, when none is, and in a handover. */
    void refusesNoSuchMilkman(String call, Numbered numbered) {
        DoorstepRounds all = Dairies.freshAndShared(3, 6);
        for (DoorstepRounds x : new DoorstepRounds[] {new DoorstepRounds(), all, Dairies.beforeSecondStep()}) {
            for (int wrong : Dairies.noMilkmen()) {
                dueThrow(call + "(" + wrong + ")", x, IndexOutOfBoundsException.class, () -> numbered.made(x, wrong));
            }
        }
    }

    /** The owners of the first doorsteps. */
    void owners(String what, DoorstepRounds x, int... want) {
        for (int i = 0; i < want.length; i++) {
            int doorstep = i;
            due(what + ", owner(" + i + ")", want[i], () -> x.owner(doorstep));
        }
    }

    /** To whom the first doorsteps shall belong. */
    void planned(String what, DoorstepRounds x, int... want) {
        for (int i = 0; i < want.length; i++) {
            int doorstep = i;
            due(what + ", planned(" + i + ")", want[i], () -> x.planned(doorstep));
        }
    }

    void sizes(String what, DoorstepRounds x, int... want) {
        for (int i = 0; i < want.length; i++) {
            int milkman = i;
            due(what + ", size(" + i + ")", want[i], () -> x.size(milkman));
        }
    }

    boolean allRight() {
        return wrong == 0;
    }

    void end() {
        String about = sentences == 0 ? "" : sentences + " sentences, ";
        System.out.println(name + ": " + about + calls + " checks, " + wrong + " wrong");
        if (wrong != 0) {
            System.exit(1);
        }
    }

    static DoorstepRounds dairy(int[] milkmen, int... pints) {
        DoorstepRounds x = new DoorstepRounds();
        for (int p : pints) {
            x.addDoorstep(p);
        }
        for (int m : milkmen) {
            x.come(m);
        }
        return x;
    }

    static int[] milkmen(int... numbers) {
        return numbers;
    }

    static void share(DoorstepRounds x) {
        x.plan();
        x.handOver();
        x.handOver();
    }

    static void write(DoorstepRounds x, String text) {
        for (int i = 0; i < text.length(); i++) {
            x.append(text.charAt(i));
        }
    }
}
