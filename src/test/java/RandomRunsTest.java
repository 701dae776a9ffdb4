import java.util.Random;

/** Promises 1 to 33 in long runs of drawn calls (always the same ones), compared with the oracle. */
public final class RandomRunsTest {
    private static final int RUNS = 1200;
    private static final int CALLS = 512;
    private static final int UNEVENNESS = 31;
    private static final String[] NAMES = {"addDoorstep", "removeDoorstep", "setPints", "come", "leave", "doorsteps",
        "pints", "owner", "isAtWork", "size", "load", "plan", "handOver", "callOff", "handover", "planned", "changed",
        "deliver", "delivered", "misses", "ifPlanned", "reason", "changesToCome", "changesIf", "append", "clearText",
        "firstError", "run", "undo", "savedStates", "digest", "unevenness"};
    // how often each call is drawn, in the order of the names, in each of the kinds of run
    private static final int[][] WEIGHTS = {
        {9, 3, 3, 4, 2, 1, 1, 2, 1, 2, 2, 8, 14, 2, 1, 2, 1, 2, 1, 1, 2, 2, 2, 2, 12, 1, 2, 6, 4, 1, 9, 1},
        {5, 1, 4, 5, 3, 1, 1, 4, 1, 2, 2, 14, 22, 4, 3, 4, 3, 4, 2, 2, 4, 4, 3, 4, 0, 0, 0, 0, 5, 1, 14, 2},
        {2, 1, 1, 2, 1, 0, 0, 0, 0, 0, 0, 1, 1, 1, 0, 0, 0, 0, 0, 0, 0, 0, 0, 0, 60, 1, 6, 14, 2, 1, 6, 0},
    };
    private static final String SIGNS = "+-clphxd;;;0123456789z ";
    private static final String[] PARTS = {"+1", "+5", "+9", "-0", "-3", "-1", "-12", "-19", "c0", "c3", "c5", "l0",
        "l3", "p", "p;h;h", "h", "x", "d", "p;h;x", "c1;p", "c2;p;h;h", "p;h;d"};

    private final Check check = new Check("RandomRunsTest");
    private final Random random;
    private final DoorstepRounds x = new DoorstepRounds();
    private final Oracle oracle = new Oracle();
    private final int[] weights;
    private String toWrite = "";

    private RandomRunsTest(int seed) {
        random = new Random(seed);
        weights = WEIGHTS[seed % WEIGHTS.length];
    }

    public static void main(String[] args) {
        int wrong = 0;
        for (int seed = 0; seed < RUNS; seed++) {
            wrong += new RandomRunsTest(seed).run(seed) ? 0 : 1;
        }
        System.out.println("RandomRunsTest: " + RUNS + " runs, " + wrong + " wrong");
        if (wrong != 0) {
            System.exit(1);
        }
    }

    private boolean run(int seed) {
        for (int i = 0; i < CALLS && check.allRight(); i++) {
            int call = draw();
            int a = drawArgument(call);
            int b = random.nextInt(12) == 0 ? random.nextInt(14) - 2 : random.nextInt(9) + 1;
            String what = "run " + seed + ", call " + i + ", " + NAMES[call] + "(" + a + ", " + b + ")";
            check.compare(what, answer(call, a, b), due(call, a, b));
        }
        return check.allRight();
    }

    private int draw() {
        int sum = 0;
        for (int weight : weights) {
            sum += weight;
        }
        int at = random.nextInt(sum);
        int call = 0;
        while (at >= weights[call]) {
            at -= weights[call];
            call++;
        }
        return call;
    }

    private int drawArgument(int call) {
        if (random.nextInt(80) == 0) {
            int[] far = {Integer.MIN_VALUE, Integer.MAX_VALUE, -1, 127, 32, 1 << 16};
            return far[random.nextInt(far.length)];
        }
        switch (call) {
            case 0: return random.nextInt(15) == 0 ? random.nextInt(14) - 2 : random.nextInt(9) + 1;
            case 3: case 4: case 8: case 9: case 10: case 23: return random.nextInt(8) - (random.nextInt(8) == 0 ? 2 : 0);
            case 24: return drawSign();
            default: return random.nextInt(22) - 1;
        }
    }

    /** Mostly signs of whole parts, now and then any sign. */
    private int drawSign() {
        if (random.nextInt(60) == 0) {
            return SIGNS.charAt(random.nextInt(SIGNS.length()));
        }
        if (toWrite.isEmpty()) {
            toWrite = (random.nextInt(7) == 0 ? "" : ";") + PARTS[random.nextInt(PARTS.length)];
            toWrite = oracle.answer(26, 0, 0) == 0 && toWrite.charAt(0) == ';' ? toWrite.substring(1) : toWrite;
        }
        int sign = toWrite.charAt(0);
        toWrite = toWrite.substring(1);
        return sign;
    }

    private String due(int call, int a, int b) {
        try {
            return call == UNEVENNESS ? Double.toString(oracle.answerDouble()) : Long.toString(oracle.answer(call, a, b));
        } catch (RuntimeException e) {
            return e.getClass().getSimpleName();
        }
    }

    private String answer(int call, int a, int b) {
        try {
            return call == UNEVENNESS ? Double.toString(x.unevenness()) : Long.toString(call(call, a, b));
        } catch (RuntimeException e) {
            return e.getClass().getSimpleName();
        }
    }

    private long call(int call, int a, int b) {
        switch (call) {
            case 0: return x.addDoorstep(a);
            case 1: return x.removeDoorstep(a);
            case 2: return x.setPints(a, b);
            case 3: return x.come(a);
            case 4: return x.leave(a);
            case 5: return x.doorsteps();
            case 6: return x.pints(a);
            case 7: return x.owner(a);
            case 8: return x.isAtWork(a) ? 1 : 0;
            case 9: return x.size(a);
            case 10: return x.load(a);
            case 11: return x.plan();
            case 12: return x.handOver();
            case 13: return x.callOff();
            case 14: return x.handover();
            case 15: return x.planned(a);
            case 16: return x.changed();
            case 17: return x.deliver();
            case 18: return x.delivered();
            case 19: return x.misses();
            case 20: return x.ifPlanned(a);
            case 21: return x.reason(a);
            case 22: return x.changesToCome();
            case 23: return x.changesIf(a);
            case 24: return x.append(a);
            case 25: return x.clearText();
            case 26: return x.firstError();
            case 27: return x.run();
            case 28: return x.undo();
            case 29: return x.savedStates();
            default: return x.digest();
        }
    }
}
