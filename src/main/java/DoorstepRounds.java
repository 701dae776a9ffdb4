/** Milk rounds that are shared out again so that they become even with few changed doorsteps. */
public final class DoorstepRounds {
    public static final int NONE = -1;

    private static final int MOST_DOORSTEPS = 20;
    private static final int MOST_PINTS = 9;
    private static final int MILKMEN = 6;
    private static final int MOST_SAVED = 6;
    private static final int MOST_CHARACTERS = 60;
    private static final int FIRST_CODE = 33;
    private static final int LAST_CODE = 126;

    private static final int NO_HANDOVER = 0;
    private static final int TO_GIVE_UP = 1;
    private static final int TO_TAKE_OVER = 2;

    private static final int STAYS = 0;
    private static final int NOBODY_AT_WORK = 1;
    private static final int GIVEN_OUT = 2;
    private static final int TAKEN_AWAY = 3;

    private static final long FIRST_HASH = 4756L;
    private static final long HASH_FACTOR = 31L;

    private final Dairy dairy = new Dairy();
    private final Dairy trial = new Dairy();
    private final Sharing sharing = new Sharing();
    private final ChangeText text = new ChangeText();
    private final History history = new History();

    public DoorstepRounds() {
    }

    // ---- doorsteps, milkmen

    public int addDoorstep(int pints) throws IllegalArgumentException, IllegalStateException {
        checkPints(pints);
        if (!dairy.mayAdd()) {
            throw new IllegalStateException("there is a handover, or there are 20 doorsteps");
        }
        history.save(dairy);
        return dairy.addOne(pints);
    }

    public int removeDoorstep(int doorstep) throws IndexOutOfBoundsException, IllegalStateException {
        checkDoorstep(doorstep);
        if (!dairy.mayRemove(doorstep)) {
            throw new IllegalStateException("there is a handover");
        }
        history.save(dairy);
        return dairy.removeOne(doorstep);
    }

    public int setPints(int doorstep, int pints) throws IndexOutOfBoundsException, IllegalArgumentException {
        checkDoorstep(doorstep);
        checkPints(pints);
        history.save(dairy);
        return dairy.changePints(doorstep, pints);
    }

    public int come(int milkman) throws IndexOutOfBoundsException, IllegalStateException {
        checkMilkman(milkman);
        if (!dairy.mayCome(milkman)) {
            throw new IllegalStateException("there is a handover, or he is at work");
        }
        history.save(dairy);
        return dairy.welcome(milkman);
    }

    public int leave(int milkman) throws IndexOutOfBoundsException, IllegalStateException {
        checkMilkman(milkman);
        if (!dairy.mayLeave(milkman)) {
            throw new IllegalStateException("there is a handover, or he is not at work");
        }
        history.save(dairy);
        return dairy.dismiss(milkman);
    }

    public int doorsteps() {
        return dairy.countDoorsteps();
    }

    public int pints(int doorstep) throws IndexOutOfBoundsException {
        checkDoorstep(doorstep);
        return dairy.pintsOf(doorstep);
    }

    public int owner(int doorstep) throws IndexOutOfBoundsException {
        checkDoorstep(doorstep);
        return dairy.ownerOf(doorstep);
    }

    public boolean isAtWork(int milkman) throws IndexOutOfBoundsException {
        checkMilkman(milkman);
        return dairy.works(milkman);
    }

    public int size(int milkman) throws IndexOutOfBoundsException {
        checkMilkman(milkman);
        return dairy.roundSize(milkman);
    }

    public int load(int milkman) throws IndexOutOfBoundsException {
        checkMilkman(milkman);
        return dairy.roundLoad(milkman);
    }

    // ---- sharing out, handing over

    public int plan() throws IllegalStateException {
        if (!dairy.mayPlan()) {
            throw new IllegalStateException("there is a handover, or nobody is at work");
        }
        history.save(dairy);
        return makePlan();
    }

    public int handOver() throws IllegalStateException {
        if (!dairy.isHandingOver()) {
            throw new IllegalStateException("there is no handover");
        }
        history.save(dairy);
        return dairy.doNextStep();
    }

    public int callOff() throws IllegalStateException {
        if (!dairy.isHandingOver()) {
            throw new IllegalStateException("there is no handover");
        }
        history.save(dairy);
        return dairy.giveBack();
    }

    public int handover() {
        return dairy.nextStep();
    }

    public int planned(int doorstep) throws IndexOutOfBoundsException {
        checkDoorstep(doorstep);
        return dairy.plannedOwner(doorstep);
    }

    public int changed() {
        return dairy.countTakenOver();
    }

    // ---- deliveries

    public int deliver() {
        history.save(dairy);
        return dairy.bringMilk();
    }

    public int delivered() {
        return dairy.countPintsBrought();
    }

    public int misses() {
        return dairy.countMisses();
    }

    // ---- forecasts; they change nothing

    public int ifPlanned(int doorstep) throws IndexOutOfBoundsException {
        checkDoorstep(doorstep);
        sharing.shareOut(dairy);
        return sharing.ownerInPlan(doorstep);
    }

    public int reason(int doorstep) throws IndexOutOfBoundsException {
        checkDoorstep(doorstep);
        sharing.shareOut(dairy);
        return reasonInPlan(doorstep);
    }

    public int changesToCome() {
        return sharing.shareOut(dairy);
    }

    public int changesIf(int milkman) throws IndexOutOfBoundsException {
        checkMilkman(milkman);
        return changesIfSwitched(milkman);
    }

    public double unevenness() {
        int count = dairy.countDoorsteps();
        if (count <= 0) {
            return 0.0;
        }
        return (double) dairy.roundDifference() / (double) count;
    }

    // ---- change text

    public int append(int code) throws IllegalArgumentException, IllegalStateException {
        if (code < FIRST_CODE || code > LAST_CODE) {
            throw new IllegalArgumentException("a character code is 33 to 126");
        }
        if (text.isFull()) {
            throw new IllegalStateException("the buffer contains 60 characters");
        }
        return text.addCode(code);
    }

    public int clearText() {
        return text.empty();
    }

    public int firstError() {
        return text.findError();
    }

    public int run() throws IllegalArgumentException {
        if (!text.isComplete()) {
            throw new IllegalArgumentException("the buffer is not a complete change text");
        }
        history.save(dairy);
        int done = 0;
        int kind = 0;
        int number = 0;
        boolean going = true;
        // one place more than the text has: the end closes the last part like a ";"
        for (int place = 0; place <= text.countCodes() && going; place++) {
            int code = text.codeOrSeparator(place);
            if (code == ChangeText.SEPARATOR) {
                going = doPart(kind, number);
                done += going ? 1 : 0;
                kind = 0;
                number = 0;
            } else if (kind == 0) {
                kind = code;
            } else {
                number = 10 * number + code - '0';
            }
        }
        text.empty();
        return done;
    }

    // ---- undo

    public int undo() throws IllegalStateException {
        if (history.isEmpty()) {
            throw new IllegalStateException("no state is saved");
        }
        return history.restore(dairy);
    }

    public int savedStates() {
        return history.countSaved();
    }

    public long digest() {
        long hash = FIRST_HASH;
        hash = mix(hash, dairy.countDoorsteps());
        hash = mix(hash, dairy.nextStep());
        hash = mix(hash, dairy.countTakenOver());
        hash = mix(hash, dairy.countPintsBrought());
        hash = mix(hash, dairy.countMisses());
        hash = mix(hash, sharing.shareOut(dairy));
        hash = mixMilkmen(hash);
        return mixDoorsteps(hash);
    }

    // ---- what the calls share

    private void checkDoorstep(int doorstep) throws IndexOutOfBoundsException {
        if (!dairy.hasDoorstep(doorstep)) {
            throw new IndexOutOfBoundsException("there is no such doorstep");
        }
    }

    private static void checkMilkman(int milkman) throws IndexOutOfBoundsException {
        if (milkman < 0 || milkman >= MILKMEN) {
            throw new IndexOutOfBoundsException("there is no such milkman");
        }
    }

    private static void checkPints(int pints) throws IllegalArgumentException {
        if (pints < 1 || pints > MOST_PINTS) {
            throw new IllegalArgumentException("pints are 1 to 9");
        }
    }

    private int makePlan() {
        int changes = sharing.shareOut(dairy);
        if (changes > 0) {
            dairy.beginHandover(sharing);
        }
        return changes;
    }

    private int reasonInPlan(int doorstep) {
        if (dairy.countAtWork() == 0) {
            return NOBODY_AT_WORK;
        }
        int owner = dairy.ownerOf(doorstep);
        if (owner == sharing.ownerInPlan(doorstep)) {
            return STAYS;
        }
        return owner == NONE ? GIVEN_OUT : TAKEN_AWAY;
    }

    /** The changes if the milkman came, or left if he is at work. */
    private int changesIfSwitched(int milkman) {
        trial.copyFrom(dairy);
        if (trial.works(milkman)) {
            trial.dismiss(milkman);
        } else {
            trial.welcome(milkman);
        }
        return sharing.shareOut(trial);
    }

    /** Does one part and tells true, or does nothing if its method would throw. */
    private boolean doPart(int kind, int number) {
        if (!mayDoPart(kind, number)) {
            return false;
        }
        switch (kind) {
            case '+': dairy.addOne(number); break;
            case '-': dairy.removeOne(number); break;
            case 'c': dairy.welcome(number); break;
            case 'l': dairy.dismiss(number); break;
            case 'p': makePlan(); break;
            case 'h': dairy.doNextStep(); break;
            case 'x': dairy.giveBack(); break;
            default: dairy.bringMilk(); break;
        }
        return true;
    }

    private boolean mayDoPart(int kind, int number) {
        switch (kind) {
            case '+': return dairy.mayAdd();
            case '-': return dairy.mayRemove(number);
            case 'c': return dairy.mayCome(number);
            case 'l': return dairy.mayLeave(number);
            case 'p': return dairy.mayPlan();
            case 'h': return dairy.isHandingOver();
            case 'x': return dairy.isHandingOver();
            default: return true;
        }
    }

    private long mixMilkmen(long begun) {
        long hash = begun;
        for (int milkman = 0; milkman < MILKMEN; milkman++) {
            hash = mix(hash, dairy.works(milkman) ? 1 : 0);
            hash = mix(hash, dairy.roundSize(milkman));
            hash = mix(hash, dairy.roundLoad(milkman));
            hash = mix(hash, changesIfSwitched(milkman));
        }
        return hash;
    }

    private long mixDoorsteps(long begun) {
        long hash = begun;
        sharing.shareOut(dairy);
        for (int doorstep = 0; doorstep < dairy.countDoorsteps(); doorstep++) {
            hash = mix(hash, dairy.pintsOf(doorstep));
            hash = mix(hash, dairy.ownerOf(doorstep));
            hash = mix(hash, dairy.plannedOwner(doorstep));
            hash = mix(hash, sharing.ownerInPlan(doorstep));
            hash = mix(hash, reasonInPlan(doorstep));
        }
        return hash;
    }

    private static long mix(long hash, int value) {
        return HASH_FACTOR * hash + value;
    }

    /** A row of numbers that looks at each place before it is used; NONE stands beyond it. */
    private static final class Row {
        private final int[] numbers;

        Row(int length) {
            numbers = new int[length > 0 ? length : 0];
        }

        int at(int place) {
            return place >= 0 && place < numbers.length ? numbers[place] : NONE;
        }

        void put(int place, int number) {
            if (place >= 0 && place < numbers.length) {
                numbers[place] = number;
            }
        }

        void increase(int place, int by) {
            if (place >= 0 && place < numbers.length) {
                numbers[place] += by;
            }
        }

        /** The numbers behind the place move one place forward. */
        void closeGap(int place) {
            if (place < 0) {
                return;
            }
            for (int hole = place; hole < numbers.length - 1; hole++) {
                numbers[hole] = numbers[hole + 1];
            }
        }

        void fill(int number) {
            for (int place = 0; place < numbers.length; place++) {
                numbers[place] = number;
            }
        }

        void copyFrom(Row other) {
            for (int place = 0; place < numbers.length; place++) {
                numbers[place] = other.at(place);
            }
        }
    }

    /** The state: everything that undo brings back. */
    private static final class Dairy {
        private final Row pints = new Row(MOST_DOORSTEPS);
        private final Row owners = new Row(MOST_DOORSTEPS);
        private final Row atWork = new Row(MILKMEN);
        // these two hold something only during a handover
        private final Row newOwners = new Row(MOST_DOORSTEPS);
        private final Row oldOwners = new Row(MOST_DOORSTEPS);
        private int count = 0;
        private int step = NO_HANDOVER;
        private int takenOver = 0;
        private int pintsBrought = 0;
        private int missed = 0;

        void copyFrom(Dairy other) {
            pints.copyFrom(other.pints);
            owners.copyFrom(other.owners);
            atWork.copyFrom(other.atWork);
            newOwners.copyFrom(other.newOwners);
            oldOwners.copyFrom(other.oldOwners);
            count = other.count;
            step = other.step;
            takenOver = other.takenOver;
            pintsBrought = other.pintsBrought;
            missed = other.missed;
        }

        boolean mayAdd() {
            return !isHandingOver() && count < MOST_DOORSTEPS;
        }

        int addOne(int howManyPints) {
            int doorstep = count;
            pints.put(doorstep, howManyPints);
            owners.put(doorstep, NONE);
            count++;
            return doorstep;
        }

        boolean mayRemove(int doorstep) {
            return hasDoorstep(doorstep) && !isHandingOver();
        }

        int removeOne(int doorstep) {
            int owner = owners.at(doorstep);
            pints.closeGap(doorstep);
            owners.closeGap(doorstep);
            count--;
            return owner;
        }

        int changePints(int doorstep, int howManyPints) {
            int before = pints.at(doorstep);
            pints.put(doorstep, howManyPints);
            return before;
        }

        boolean mayCome(int milkman) {
            return !isHandingOver() && !works(milkman);
        }

        int welcome(int milkman) {
            atWork.put(milkman, 1);
            return countAtWork();
        }

        boolean mayLeave(int milkman) {
            return !isHandingOver() && works(milkman);
        }

        int dismiss(int milkman) {
            int left = 0;
            for (int doorstep = 0; doorstep < count; doorstep++) {
                if (owners.at(doorstep) == milkman) {
                    owners.put(doorstep, NONE);
                    left++;
                }
            }
            atWork.put(milkman, 0);
            return left;
        }

        int countDoorsteps() {
            return count;
        }

        boolean hasDoorstep(int doorstep) {
            return doorstep >= 0 && doorstep < count;
        }

        int pintsOf(int doorstep) {
            return pints.at(doorstep);
        }

        int ownerOf(int doorstep) {
            return owners.at(doorstep);
        }

        boolean works(int milkman) {
            return atWork.at(milkman) == 1;
        }

        int countAtWork() {
            int working = 0;
            for (int milkman = 0; milkman < MILKMEN; milkman++) {
                if (works(milkman)) {
                    working++;
                }
            }
            return working;
        }

        int roundSize(int milkman) {
            int size = 0;
            for (int doorstep = 0; doorstep < count; doorstep++) {
                if (owners.at(doorstep) == milkman) {
                    size++;
                }
            }
            return size;
        }

        int roundLoad(int milkman) {
            int load = 0;
            for (int doorstep = 0; doorstep < count; doorstep++) {
                if (owners.at(doorstep) == milkman) {
                    load += pints.at(doorstep);
                }
            }
            return load;
        }

        /** The greatest round less the least one; 0 if nobody is at work. */
        int roundDifference() {
            int greatest = 0;
            int least = MOST_DOORSTEPS;
            for (int milkman = 0; milkman < MILKMEN; milkman++) {
                if (works(milkman)) {
                    int size = roundSize(milkman);
                    greatest = size > greatest ? size : greatest;
                    least = size < least ? size : least;
                }
            }
            return greatest > least ? greatest - least : 0;
        }

        boolean mayPlan() {
            return !isHandingOver() && countAtWork() > 0;
        }

        boolean isHandingOver() {
            return step != NO_HANDOVER;
        }

        int nextStep() {
            return step;
        }

        void beginHandover(Sharing sharing) {
            for (int doorstep = 0; doorstep < count; doorstep++) {
                newOwners.put(doorstep, sharing.ownerInPlan(doorstep));
            }
            oldOwners.copyFrom(owners);
            step = TO_GIVE_UP;
        }

        int doNextStep() {
            return step == TO_GIVE_UP ? giveUp() : takeOver();
        }

        private int giveUp() {
            int givenUp = 0;
            for (int doorstep = 0; doorstep < count; doorstep++) {
                int owner = owners.at(doorstep);
                if (owner != NONE && owner != newOwners.at(doorstep)) {
                    owners.put(doorstep, NONE);
                    givenUp++;
                }
            }
            step = TO_TAKE_OVER;
            return givenUp;
        }

        private int takeOver() {
            int taken = moveTo(newOwners);
            takenOver += taken;
            step = NO_HANDOVER;
            return taken;
        }

        int giveBack() {
            int back = moveTo(oldOwners);
            step = NO_HANDOVER;
            return back;
        }

        private int moveTo(Row others) {
            int moved = 0;
            for (int doorstep = 0; doorstep < count; doorstep++) {
                if (owners.at(doorstep) != others.at(doorstep)) {
                    owners.put(doorstep, others.at(doorstep));
                    moved++;
                }
            }
            return moved;
        }

        int plannedOwner(int doorstep) {
            return isHandingOver() ? newOwners.at(doorstep) : owners.at(doorstep);
        }

        int countTakenOver() {
            return takenOver;
        }

        int bringMilk() {
            int brought = 0;
            for (int doorstep = 0; doorstep < count; doorstep++) {
                if (owners.at(doorstep) == NONE) {
                    missed++;
                } else {
                    brought += pints.at(doorstep);
                }
            }
            pintsBrought += brought;
            return brought;
        }

        int countPintsBrought() {
            return pintsBrought;
        }

        int countMisses() {
            return missed;
        }
    }

    /** Shares out; the plan that it made last stays until it makes another one. */
    private static final class Sharing {
        private final Row plan = new Row(MOST_DOORSTEPS);
        private final Row order = new Row(MOST_DOORSTEPS);
        private final Row rounds = new Row(MILKMEN);
        private final Row quotas = new Row(MILKMEN);
        private final Row planSizes = new Row(MILKMEN);
        private final Row planLoads = new Row(MILKMEN);

        /** Returns the number of changes; NONE if nobody is at work. */
        int shareOut(Dairy dairy) {
            plan.fill(NONE);
            planSizes.fill(0);
            planLoads.fill(0);
            int working = dairy.countAtWork();
            if (working <= 0) {
                return NONE;
            }
            int count = dairy.countDoorsteps();
            setRounds(dairy);
            setQuotas(count / working, count % working);
            setOrder(dairy);
            keepRounds(dairy);
            giveOutOthers(dairy);
            return countChanges(dairy);
        }

        int ownerInPlan(int doorstep) {
            return plan.at(doorstep);
        }

        /** Who is not at work has no round, not even one of the size 0. */
        private void setRounds(Dairy dairy) {
            for (int milkman = 0; milkman < MILKMEN; milkman++) {
                rounds.put(milkman, dairy.works(milkman) ? dairy.roundSize(milkman) : NONE);
            }
        }

        /** Who has no round gets the quota 0, and so nothing in the plan. */
        private void setQuotas(int quota, int withOneMore) {
            for (int milkman = 0; milkman < MILKMEN; milkman++) {
                if (rounds.at(milkman) == NONE) {
                    quotas.put(milkman, 0);
                } else {
                    quotas.put(milkman, countAhead(milkman) < withOneMore ? quota + 1 : quota);
                }
            }
        }

        private int countAhead(int milkman) {
            int ahead = 0;
            int round = rounds.at(milkman);
            for (int other = 0; other < MILKMEN; other++) {
                int otherRound = rounds.at(other);
                if (otherRound > round || otherRound == round && other < milkman) {
                    ahead++;
                }
            }
            return ahead;
        }

        /** The most pints come first, and the least numbers among the same pints. */
        private void setOrder(Dairy dairy) {
            int place = 0;
            for (int pints = MOST_PINTS; pints > 0; pints--) {
                for (int doorstep = 0; doorstep < dairy.countDoorsteps(); doorstep++) {
                    if (dairy.pintsOf(doorstep) == pints) {
                        order.put(place, doorstep);
                        place++;
                    }
                }
            }
        }

        private void keepRounds(Dairy dairy) {
            for (int place = 0; place < dairy.countDoorsteps(); place++) {
                int doorstep = order.at(place);
                int owner = dairy.ownerOf(doorstep);
                if (owner != NONE && planSizes.at(owner) < quotas.at(owner)) {
                    give(doorstep, owner, dairy.pintsOf(doorstep));
                }
            }
        }

        private void giveOutOthers(Dairy dairy) {
            for (int place = 0; place < dairy.countDoorsteps(); place++) {
                int doorstep = order.at(place);
                if (plan.at(doorstep) == NONE) {
                    give(doorstep, findLeastLoaded(), dairy.pintsOf(doorstep));
                }
            }
        }

        private void give(int doorstep, int milkman, int pints) {
            plan.put(doorstep, milkman);
            planSizes.increase(milkman, 1);
            planLoads.increase(milkman, pints);
        }

        private int findLeastLoaded() {
            int found = NONE;
            for (int milkman = 0; milkman < MILKMEN; milkman++) {
                boolean hasRoom = planSizes.at(milkman) < quotas.at(milkman);
                if (hasRoom && (found == NONE || planLoads.at(milkman) < planLoads.at(found))) {
                    found = milkman;
                }
            }
            return found;
        }

        private int countChanges(Dairy dairy) {
            int changes = 0;
            for (int doorstep = 0; doorstep < dairy.countDoorsteps(); doorstep++) {
                if (plan.at(doorstep) != dairy.ownerOf(doorstep)) {
                    changes++;
                }
            }
            return changes;
        }
    }

    /** The buffer, and what a change text looks like. */
    private static final class ChangeText {
        static final int SEPARATOR = ';';

        // what has been read of a part
        private static final int ERROR = -1;
        private static final int NOTHING = 0;
        private static final int PLUS = 1;
        private static final int MINUS = 2;
        private static final int MINUS_ONE = 3;
        private static final int MILKMAN = 4;
        private static final int WHOLE_PART = 5;

        private final Row codes = new Row(MOST_CHARACTERS);
        private int length = 0;

        boolean isFull() {
            return length >= MOST_CHARACTERS;
        }

        int addCode(int code) {
            codes.put(length, code);
            length++;
            return length;
        }

        int empty() {
            int had = length;
            length = 0;
            return had;
        }

        int countCodes() {
            return length;
        }

        int codeOrSeparator(int place) {
            return place < length ? codes.at(place) : SEPARATOR;
        }

        int findError() {
            int read = NOTHING;
            for (int place = 0; place < length; place++) {
                read = readNext(read, codes.at(place));
                if (read == ERROR) {
                    return place;
                }
            }
            return length;
        }

        boolean isComplete() {
            int read = NOTHING;
            for (int place = 0; place < length && read != ERROR; place++) {
                read = readNext(read, codes.at(place));
            }
            return read == WHOLE_PART || read == MINUS_ONE;
        }

        private static int readNext(int read, int code) {
            switch (read) {
                case NOTHING: return readKind(code);
                case PLUS: return isDigit(code, '1', '9') ? WHOLE_PART : ERROR;
                case MINUS: return readDoorstep(code);
                case MINUS_ONE: return isDigit(code, '0', '9') ? WHOLE_PART : readSeparator(code);
                case MILKMAN: return isDigit(code, '0', '5') ? WHOLE_PART : ERROR;
                case WHOLE_PART: return readSeparator(code);
                default: return ERROR;
            }
        }

        private static int readKind(int code) {
            switch (code) {
                case '+': return PLUS;
                case '-': return MINUS;
                case 'c': return MILKMAN;
                case 'l': return MILKMAN;
                case 'p': return WHOLE_PART;
                case 'h': return WHOLE_PART;
                case 'x': return WHOLE_PART;
                case 'd': return WHOLE_PART;
                default: return ERROR;
            }
        }

        /** Only a 1 can have another digit behind it: the numbers end at 19. */
        private static int readDoorstep(int code) {
            if (!isDigit(code, '0', '9')) {
                return ERROR;
            }
            return code == '1' ? MINUS_ONE : WHOLE_PART;
        }

        private static int readSeparator(int code) {
            return code == SEPARATOR ? NOTHING : ERROR;
        }

        private static boolean isDigit(int code, int least, int greatest) {
            return code >= least && code <= greatest;
        }
    }

    /** The saved states, the oldest one first; the dairies behind them wait to be used again. */
    private static final class History {
        private final Dairy[] saved = new Dairy[MOST_SAVED];
        private int count = 0;

        History() {
            for (int place = 0; place < saved.length; place++) {
                saved[place] = new Dairy();
            }
        }

        boolean isEmpty() {
            return count <= 0;
        }

        int countSaved() {
            return count;
        }

        void save(Dairy dairy) {
            if (count >= saved.length) {
                moveOldestToEnd();
                count = saved.length - 1;
            }
            Dairy free = savedAt(count);
            if (free != null) {
                free.copyFrom(dairy);
                count++;
            }
        }

        int restore(Dairy dairy) {
            Dairy newest = savedAt(count - 1);
            if (newest != null) {
                dairy.copyFrom(newest);
                count--;
            }
            return count;
        }

        private Dairy savedAt(int place) {
            return place >= 0 && place < saved.length ? saved[place] : null;
        }

        private void moveOldestToEnd() {
            Dairy oldest = savedAt(0);
            for (int place = 1; place < saved.length; place++) {
                saved[place - 1] = saved[place];
            }
            if (saved.length > 0) {
                saved[saved.length - 1] = oldest;
            }
        }
    }
}
