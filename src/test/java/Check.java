import java.util.function.DoubleSupplier;
import java.util.function.LongSupplier;

/** Counts the calls whose answer is not the one that is due, and prints them. */
final class Check {
    private final String name;
    private int calls = 0;
    private int wrong = 0;

    Check(String name) {
        this.name = name;
    }

    void due(String call, long want, LongSupplier made) {
        calls++;
        String got;
        try {
            got = Long.toString(made.getAsLong());
        } catch (RuntimeException e) {
            got = "throws." + e.getClass().getSimpleName();
        }
        compare(call, got, Long.toString(want));
    }

    void dueDouble(String call, double want, DoubleSupplier made) {
        calls++;
        String got;
        try {
            got = Double.toString(made.getAsDouble());
        } catch (RuntimeException e) {
            got = "throws." + e.getClass().getSimpleName();
        }
        compare(call, got, Double.toString(want));
    }

    void dueTrue(String what, boolean holds) {
        calls++;
        compare(what, Boolean.toString(holds), "true");
    }

    /** The call throws exactly this exception, and nothing that can be asked for changes. */
    void dueThrow(String call, DoorstepRounds x, Class<? extends RuntimeException> want, LongSupplier made) {
        calls++;
        long digest = x.digest();
        int saved = x.savedStates();
        int error = x.firstError();
        String got;
        try {
            got = Long.toString(made.getAsLong());
        } catch (RuntimeException e) {
            got = "throws." + e.getClass().getSimpleName();
        }
        compare(call, got, "throws." + want.getSimpleName());
        compare(call + ", digest() behind it", Long.toString(x.digest()), Long.toString(digest));
        compare(call + ", savedStates() behind it", Integer.toString(x.savedStates()), Integer.toString(saved));
        compare(call + ", firstError() behind it", Integer.toString(x.firstError()), Integer.toString(error));
    }

    void compare(String call, String got, String want) {
        if (!got.equals(want)) {
            wrong++;
            System.out.println(name + ": " + call + " answered " + got + ", due is " + want);
        }
    }

    boolean allRight() {
        return wrong == 0;
    }

    void end() {
        System.out.println(name + ": " + calls + " checks, " + wrong + " wrong");
        if (wrong != 0) {
            System.exit(1);
        }
    }

    static DoorstepRounds dairy(int[] milkmen, int... pints) {
        DoorstepRounds x = new DoorstepRounds();
        for (int p : pints) {
            x.addDoorstep(p);
        }
        for (int m : milkmen) {
            x.come(m);
        }
        return x;
    }

    static int[] milkmen(int... numbers) {
        return numbers;
    }

    static void share(DoorstepRounds x) {
        x.plan();
        x.handOver();
        x.handOver();
    }

    static void write(DoorstepRounds x, String text) {
        for (int i = 0; i < text.length(); i++) {
            x.append(text.charAt(i));
        }
    }
}
