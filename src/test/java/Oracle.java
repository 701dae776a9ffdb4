import java.util.ArrayDeque;
import java.util.ArrayList;
import java.util.Comparator;
import java.util.Deque;
import java.util.HashMap;
import java.util.List;
import java.util.Map;
import java.util.TreeMap;
import java.util.TreeSet;
import java.util.function.LongSupplier;
import java.util.regex.Pattern;

/** A second reading of the document, in another style, that the random runs are compared with. */
final class Oracle {
    private static final String PART = "(\\+[1-9]|-(1?[0-9])|[cl][0-5]|[phxd])";
    private static final Pattern TEXT = Pattern.compile(PART + "(;" + PART + ")*");

    private static final class Door {
        int pints;
        Integer owner;

        Door(int pints, Integer owner) {
            this.pints = pints;
            this.owner = owner;
        }
    }

    private static final class State {
        final List<Door> doors = new ArrayList<>();
        final TreeSet<Integer> atWork = new TreeSet<>();
        final List<Integer> plan = new ArrayList<>();
        final Map<Integer, Integer> givenUp = new TreeMap<>();
        int handover = 0;
        int changed = 0;
        int delivered = 0;
        int misses = 0;

        State copy() {
            State copy = new State();
            for (Door door : doors) {
                copy.doors.add(new Door(door.pints, door.owner));
            }
            copy.atWork.addAll(atWork);
            copy.plan.addAll(plan);
            copy.givenUp.putAll(givenUp);
            copy.handover = handover;
            copy.changed = changed;
            copy.delivered = delivered;
            copy.misses = misses;
            return copy;
        }

        List<Integer> round(int milkman) {
            List<Integer> round = new ArrayList<>();
            for (int i = 0; i < doors.size(); i++) {
                if (doors.get(i).owner != null && doors.get(i).owner == milkman) {
                    round.add(i);
                }
            }
            return round;
        }

        /** The plan, or null if nobody is at work. */
        List<Integer> share() {
            if (atWork.isEmpty()) {
                return null;
            }
            List<Integer> milkmen = new ArrayList<>(atWork);
            milkmen.sort(Comparator.comparing((Integer m) -> -round(m).size()).thenComparing(m -> m));
            Comparator<Integer> byPints = Comparator.comparing((Integer i) -> -doors.get(i).pints).thenComparing(i -> i);
            Map<Integer, Integer> quota = new HashMap<>();
            Map<Integer, List<Integer>> given = new TreeMap<>();
            int extra = doors.size() % milkmen.size();
            for (int m : milkmen) {
                quota.put(m, doors.size() / milkmen.size() + (extra-- > 0 ? 1 : 0));
                List<Integer> round = round(m);
                round.sort(byPints);
                given.put(m, new ArrayList<>(round.subList(0, Math.min(round.size(), quota.get(m)))));
            }
            List<Integer> others = new ArrayList<>();
            for (int i = 0; i < doors.size(); i++) {
                int doorstep = i;
                if (given.values().stream().noneMatch(list -> list.contains(doorstep))) {
                    others.add(i);
                }
            }
            others.sort(byPints);
            for (int i : others) {
                int best = milkmen.stream().filter(m -> given.get(m).size() < quota.get(m))
                    .min(Comparator.comparing((Integer m) -> given.get(m).stream().mapToInt(d -> doors.get(d).pints).sum())
                        .thenComparing(m -> m)).get();
                given.get(best).add(i);
            }
            List<Integer> plan = new ArrayList<>();
            for (int i = 0; i < doors.size(); i++) {
                for (int m : given.keySet()) {
                    if (given.get(m).contains(i)) {
                        plan.add(m);
                    }
                }
            }
            return plan;
        }

        int changes() {
            List<Integer> shared = share();
            if (shared == null) {
                return -1;
            }
            int changes = 0;
            for (int i = 0; i < doors.size(); i++) {
                changes += shared.get(i).equals(doors.get(i).owner) ? 0 : 1;
            }
            return changes;
        }
    }

    private State now = new State();
    private final Deque<State> saved = new ArrayDeque<>();
    private final StringBuilder buffer = new StringBuilder();

    private void save() {
        saved.push(now.copy());
        if (saved.size() > 6) {
            saved.removeLast();
        }
    }

    private long undoable(LongSupplier call) {
        State before = now.copy();
        long answer = call.getAsLong();
        saved.push(before);
        if (saved.size() > 6) {
            saved.removeLast();
        }
        return answer;
    }

    private void door(int i) {
        if (i < 0 || i >= now.doors.size()) {
            throw new IndexOutOfBoundsException();
        }
    }

    private static void man(int m) {
        if (m < 0 || m > 5) {
            throw new IndexOutOfBoundsException();
        }
    }

    private static void argument(boolean good) {
        if (!good) {
            throw new IllegalArgumentException();
        }
    }

    private static void state(boolean good) {
        if (!good) {
            throw new IllegalStateException();
        }
    }

    private static int number(Integer milkman) {
        return milkman == null ? -1 : milkman;
    }

    // the plain calls, without undo

    private long add(int pints) {
        argument(pints >= 1 && pints <= 9);
        state(now.handover == 0 && now.doors.size() < 20);
        now.doors.add(new Door(pints, null));
        return now.doors.size() - 1;
    }

    private long remove(int i) {
        door(i);
        state(now.handover == 0);
        return number(now.doors.remove(i).owner);
    }

    private long change(int i, int pints) {
        door(i);
        argument(pints >= 1 && pints <= 9);
        int old = now.doors.get(i).pints;
        now.doors.get(i).pints = pints;
        return old;
    }

    private long arrive(int m) {
        man(m);
        state(now.handover == 0 && !now.atWork.contains(m));
        now.atWork.add(m);
        return now.atWork.size();
    }

    private long go(int m) {
        man(m);
        state(now.handover == 0 && now.atWork.contains(m));
        List<Integer> round = now.round(m);
        round.forEach(i -> now.doors.get(i).owner = null);
        now.atWork.remove(m);
        return round.size();
    }

    private long beginPlan() {
        state(now.handover == 0 && !now.atWork.isEmpty());
        int changes = now.changes();
        if (changes > 0) {
            now.plan.clear();
            now.plan.addAll(now.share());
            now.givenUp.clear();
            now.handover = 1;
        }
        return changes;
    }

    private long next() {
        state(now.handover != 0);
        long count = 0;
        for (int i = 0; i < now.doors.size(); i++) {
            Door d = now.doors.get(i);
            if (now.plan.get(i).equals(d.owner)) {
                continue;
            }
            if (now.handover == 1 && d.owner != null) {
                now.givenUp.put(i, d.owner);
                d.owner = null;
                count++;
            } else if (now.handover == 2) {
                d.owner = now.plan.get(i);
                now.changed++;
                count++;
            }
        }
        now.handover = now.handover == 1 ? 2 : 0;
        return count;
    }

    private long off() {
        state(now.handover != 0);
        now.givenUp.forEach((i, m) -> now.doors.get(i).owner = m);
        now.handover = 0;
        long back = now.givenUp.size();
        now.givenUp.clear();
        return back;
    }

    private long bring() {
        int sum = 0;
        for (Door d : now.doors) {
            if (d.owner == null) {
                now.misses++;
            } else {
                sum += d.pints;
            }
        }
        now.delivered += sum;
        return sum;
    }

    private void part(String part) {
        String rest = part.substring(1);
        switch (part.charAt(0)) {
            case '+' -> add(Integer.parseInt(rest));
            case '-' -> remove(Integer.parseInt(rest));
            case 'c' -> arrive(Integer.parseInt(rest));
            case 'l' -> go(Integer.parseInt(rest));
            case 'p' -> beginPlan();
            case 'h' -> next();
            case 'x' -> off();
            default -> bring();
        }
    }

    private long runParts() {
        argument(TEXT.matcher(buffer).matches());
        save();
        long done = 0;
        try {
            for (String part : buffer.toString().split(";")) {
                part(part);
                done++;
            }
        } catch (RuntimeException e) {
            // this part is not done, nor are those behind it
        }
        buffer.setLength(0);
        return done;
    }

    /** Every beginning of a change text is one itself, or becomes one by one of these endings. */
    private static boolean begins(String text) {
        return TEXT.matcher(text).matches() || TEXT.matcher(text + "1").matches() || TEXT.matcher(text + "p").matches();
    }

    private long error() {
        for (int i = 0; i < buffer.length(); i++) {
            if (!begins(buffer.substring(0, i + 1))) {
                return i;
            }
        }
        return buffer.length();
    }

    private long why(int i) {
        door(i);
        Integer owner = now.doors.get(i).owner;
        if (now.atWork.isEmpty()) {
            return 1;
        }
        return owner == null ? 2 : now.share().get(i).equals(owner) ? 0 : 3;
    }

    private long forecast(int i) {
        door(i);
        List<Integer> plan = now.share();
        return plan == null ? -1 : plan.get(i);
    }

    private long changesIf(int m) {
        man(m);
        State other = now.copy();
        if (other.atWork.remove(m)) {
            other.round(m).forEach(i -> other.doors.get(i).owner = null);
        } else {
            other.atWork.add(m);
        }
        return other.changes();
    }

    private long planned(int i) {
        door(i);
        return now.handover != 0 ? now.plan.get(i) : number(now.doors.get(i).owner);
    }

    private long load(int m) {
        man(m);
        return now.round(m).stream().mapToInt(i -> now.doors.get(i).pints).sum();
    }

    private double unevenness() {
        if (now.atWork.isEmpty() || now.doors.isEmpty()) {
            return 0.0;
        }
        int greatest = now.atWork.stream().mapToInt(m -> now.round(m).size()).max().getAsInt();
        int least = now.atWork.stream().mapToInt(m -> now.round(m).size()).min().getAsInt();
        return (double) (greatest - least) / (double) now.doors.size();
    }

    private long digest() {
        List<Long> values = new ArrayList<>(List.of((long) now.doors.size(), (long) now.handover, (long) now.changed,
            (long) now.delivered, (long) now.misses, (long) now.changes()));
        for (int m = 0; m < 6; m++) {
            values.addAll(List.of(now.atWork.contains(m) ? 1L : 0L, (long) now.round(m).size(), load(m), changesIf(m)));
        }
        for (int i = 0; i < now.doors.size(); i++) {
            Door d = now.doors.get(i);
            values.addAll(List.of((long) d.pints, (long) number(d.owner), planned(i), forecast(i), why(i)));
        }
        long hash = 4756;
        for (long v : values) {
            hash = 31 * hash + v;
        }
        return hash;
    }

    private long restore() {
        state(!saved.isEmpty());
        now = saved.pop();
        return saved.size();
    }

    private long append(int code) {
        argument(code >= 33 && code <= 126);
        state(buffer.length() < 60);
        buffer.append((char) code);
        return buffer.length();
    }

    private long clear() {
        long length = buffer.length();
        buffer.setLength(0);
        return length;
    }

    double answerDouble() {
        return unevenness();
    }

    /** The answer of the call with this number, see RandomRunsTest; a boolean counts 1 or 0. */
    long answer(int call, int a, int b) {
        switch (call) {
            case 0: return undoable(() -> add(a));
            case 1: return undoable(() -> remove(a));
            case 2: return undoable(() -> change(a, b));
            case 3: return undoable(() -> arrive(a));
            case 4: return undoable(() -> go(a));
            case 5: return now.doors.size();
            case 6: door(a); return now.doors.get(a).pints;
            case 7: door(a); return number(now.doors.get(a).owner);
            case 8: man(a); return now.atWork.contains(a) ? 1 : 0;
            case 9: man(a); return now.round(a).size();
            case 10: return load(a);
            case 11: return undoable(this::beginPlan);
            case 12: return undoable(this::next);
            case 13: return undoable(this::off);
            case 14: return now.handover;
            case 15: return planned(a);
            case 16: return now.changed;
            case 17: return undoable(this::bring);
            case 18: return now.delivered;
            case 19: return now.misses;
            case 20: return forecast(a);
            case 21: return why(a);
            case 22: return now.changes();
            case 23: return changesIf(a);
            case 24: return append(a);
            case 25: return clear();
            case 26: return error();
            case 27: return runParts();
            case 28: return restore();
            case 29: return saved.size();
            default: return digest();
        }
    }
}
