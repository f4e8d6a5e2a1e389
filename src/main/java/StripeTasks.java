/**
 * A gate array that is reloaded by stripes while the other stripes go on.
 * What each call promises stands in the document of the project; README.md tells how to use it.
 */
public final class StripeTasks {
    public static final int NONE = -1;

    private static final int STRIPES = 12;
    private static final int MOST_TASKS = 6;
    private static final int WIDEST = 6;
    private static final int VALUES = 997;
    private static final int MOST_TICKS = 60;
    private static final int MOST_TICKS_AHEAD = 200;
    private static final int MOST_CHARACTERS = 120;
    private static final int MOST_REMEMBERED = 14;
    private static final int SLOTS = 2;
    private static final int MOST_COMMANDS = 3;
    private static final int GROUP_END = 100000;
    private static final int MOST_TURNS = 60;
    private static final int MOST_WORKS_TOLD = 9999;

    private static final int OFF = 0;
    private static final int LOADED = 1;
    private static final int RUNNING = 2;
    private static final int HANDED_OVER = 3;

    private static final int TICKS_A_STRIPE = 0;
    private static final int TICKS_TO_HAND_OVER = 1;
    private static final int TICKS_TO_SAVE = 2;
    private static final int SETTINGS = 3;
    private static final int[] FIRST_SETTINGS = {3, 2, 10};
    private static final int[] LEAST_SETTINGS = {1, 0, 1};
    private static final int[] MOST_SETTINGS = {9, 20, 99};

    private final Text text = new Text();
    private final State now = new State();
    /** Copies of the state are tried out here: one room for all calls, as rooms are scarce. */
    private final State trial = new State();
    private final History history = new History();
    private final State[] slots = new State[SLOTS];
    private final boolean[] slotFilled = new boolean[SLOTS];

    public StripeTasks() {
        for (int i = 0; i < SLOTS; i++) {
            slots[i] = new State();
        }
    }

    // ---- text

    public int append(int c) throws IllegalArgumentException, IllegalStateException {
        if (!isBetween(c, 0, 255)) {
            throw new IllegalArgumentException();
        }
        if (text.isFull()) {
            throw new IllegalStateException();
        }
        return text.put((char) c);
    }

    public int clearText() {
        return text.makeEmpty();
    }

    public int errorPosition() {
        return text.firstError();
    }

    public int load() throws IllegalStateException {
        if (text.firstError() != NONE) {
            throw new IllegalStateException();
        }
        now.reset();
        history.forgetAll();
        for (int i = 0; i < SLOTS; i++) {
            slotFilled[i] = false;
        }
        int leftOut = 0;
        text.beginReading();
        for (int i = 0; i < MOST_CHARACTERS && text.readCommand(); i++) {
            if (!obeyTextCommand(now, text.letter, text.first, text.second)) {
                leftOut++;
            }
        }
        return leftOut;
    }

    // ---- what there is

    public int about(int what) throws IllegalArgumentException {
        switch (what) {
            case 0:
                return now.count;
            case 1:
                return now.ticks;
            case 2:
                return now.countRunning();
            case 3:
                return now.countFree();
            case 4:
                return now.longestFreeRow();
            case 5:
                return now.countBad();
            case 6:
                return now.jobsDone;
            case 7:
                return now.jobsLost;
            case 8:
                return now.works;
            default:
                throw new IllegalArgumentException();
        }
    }

    public int task(int t, int what) throws IndexOutOfBoundsException, IllegalArgumentException {
        Task told = now.taskNumbered(t);
        if (told == null) {
            throw new IndexOutOfBoundsException();
        }
        switch (what) {
            case 0:
                return told.width;
            case 1:
                return told.value;
            case 2:
                return told.saved;
            case 3:
                return told.worked;
            case 4:
                return told.status;
            case 5:
                return told.first;
            default:
                throw new IllegalArgumentException();
        }
    }

    public int stripe(int s, int what) throws IndexOutOfBoundsException, IllegalArgumentException {
        if (!isStripe(s)) {
            throw new IndexOutOfBoundsException();
        }
        switch (what) {
            case 0:
                return now.takerOf(s);
            case 1:
                return now.moverTo(s);
            case 2:
                return now.isBad(s) ? 1 : 0;
            default:
                throw new IllegalArgumentException();
        }
    }

    public int job(int what) throws IllegalArgumentException {
        if (!isBetween(what, 0, 2)) {
            throw new IllegalArgumentException();
        }
        if (now.isIdle()) {
            return NONE;
        }
        if (what == 0) {
            return now.jobTask;
        }
        return what == 1 ? now.jobFirst : now.jobTicks;
    }

    public int setting(int what) throws IllegalArgumentException {
        if (!isSetting(what)) {
            throw new IllegalArgumentException();
        }
        return now.settings[what];
    }

    // ---- actions

    public int add(int width, int value) throws IllegalArgumentException, IllegalStateException {
        if (!isWidth(width) || !isValue(value)) {
            throw new IllegalArgumentException();
        }
        if (!now.hasRoomForTask()) {
            throw new IllegalStateException();
        }
        history.remember(now);
        return now.addTask(width, value);
    }

    public int bring(int t, int s) throws IndexOutOfBoundsException, IllegalStateException {
        if (!now.hasTask(t) || !isStripe(s)) {
            throw new IndexOutOfBoundsException();
        }
        if (!now.canBring(t, s)) {
            throw new IllegalStateException();
        }
        history.remember(now);
        return now.startJob(t, s);
    }

    public int stop(int t) throws IndexOutOfBoundsException, IllegalStateException {
        if (!now.hasTask(t)) {
            throw new IndexOutOfBoundsException();
        }
        if (!now.canStop(t)) {
            throw new IllegalStateException();
        }
        history.remember(now);
        return now.stopTask(t);
    }

    public int turnBad(int s) throws IndexOutOfBoundsException {
        if (!isStripe(s)) {
            throw new IndexOutOfBoundsException();
        }
        history.remember(now);
        return now.makeBad(s);
    }

    public int mend(int s) throws IndexOutOfBoundsException {
        if (!isStripe(s)) {
            throw new IndexOutOfBoundsException();
        }
        history.remember(now);
        return now.makeGood(s);
    }

    public int run(int n) throws IllegalArgumentException {
        if (!isBetween(n, 1, MOST_TICKS)) {
            throw new IllegalArgumentException();
        }
        history.remember(now);
        return now.passTicks(n);
    }

    public int set(int what, int v) throws IllegalArgumentException {
        if (!isSetting(what) || !isBetween(v, LEAST_SETTINGS[what], MOST_SETTINGS[what])) {
            throw new IllegalArgumentException();
        }
        history.remember(now);
        int previous = now.settings[what];
        now.settings[what] = v;
        return previous;
    }

    public int undo() throws IllegalStateException {
        if (history.size == 0) {
            throw new IllegalStateException();
        }
        return history.takeBack(now);
    }

    // ---- finding, and what would be

    public int bestGap(int width) throws IllegalArgumentException {
        if (!isWidth(width)) {
            throw new IllegalArgumentException();
        }
        return now.shortestGap(width);
    }

    public int window(int width, int what) throws IllegalArgumentException {
        if (!isBetween(width, 1, STRIPES) || !isBetween(what, 0, 1)) {
            throw new IllegalArgumentException();
        }
        int easiest = now.easiestWindow(width);
        if (easiest == NONE || what == 0) {
            return easiest;
        }
        return now.widthInTheWay(easiest, width);
    }

    public int idleIn() {
        return now.ticksUntilIdle();
    }

    public int coming(int t, int n, int what) throws IndexOutOfBoundsException, IllegalArgumentException {
        Task present = now.taskNumbered(t);
        if (present == null) {
            throw new IndexOutOfBoundsException();
        }
        if (!isBetween(n, 1, MOST_TICKS_AHEAD) || !isBetween(what, 0, 2)) {
            throw new IllegalArgumentException();
        }
        trial.copyFrom(now);
        for (int i = 0; i < n; i++) {
            trial.passTick();
        }
        Task later = trial.taskNumbered(t);
        if (later == null) {
            return NONE;
        }
        if (what == 0) {
            return later.value;
        }
        return what == 1 ? later.saved : later.worked - present.worked;
    }

    public int lost(int s) throws IndexOutOfBoundsException {
        if (!isStripe(s)) {
            throw new IndexOutOfBoundsException();
        }
        Task victim = now.taskNumbered(now.victimOf(s));
        return victim == null ? 0 : victim.unsaved;
    }

    // ---- scripts, simulations

    public int runScript(int n, long script) throws IllegalArgumentException {
        if (!isBetween(n, 1, MOST_COMMANDS)) {
            throw new IllegalArgumentException();
        }
        if (script < 0 || withoutLastGroups(script, n) != 0) {
            throw new IllegalArgumentException();
        }
        trial.copyFrom(now);
        for (int i = 0; i < n; i++) {
            int group = (int) (withoutLastGroups(script, n - 1 - i) % GROUP_END);
            if (!obeyGroup(trial, group)) {
                return i;
            }
        }
        return NONE;
    }

    public int simulate(long seed, int m) throws IllegalArgumentException {
        if (!isBetween(m, 1, MOST_TURNS)) {
            throw new IllegalArgumentException();
        }
        trial.copyFrom(now);
        long x = seed;
        for (int i = 0; i < m; i++) {
            x = x * 6364136223846793005L + 1442695040888963407L;
            takeTurn(trial, (int) (x >>> 33));
        }
        int worked = trial.works - now.works;
        return 10000 * trial.countRunning() + Math.min(worked, MOST_WORKS_TOLD);
    }

    // ---- save slots

    public int save(int slot) throws IndexOutOfBoundsException {
        if (!isBetween(slot, 0, SLOTS - 1)) {
            throw new IndexOutOfBoundsException();
        }
        slots[slot].copyFrom(now);
        slotFilled[slot] = true;
        return now.ticks;
    }

    public int restore(int slot) throws IndexOutOfBoundsException, IllegalStateException {
        if (!isBetween(slot, 0, SLOTS - 1)) {
            throw new IndexOutOfBoundsException();
        }
        if (!slotFilled[slot]) {
            throw new IllegalStateException();
        }
        now.copyFrom(slots[slot]);
        history.forgetAll();
        return now.ticks;
    }

    // ---- what several of these calls need

    private static boolean isBetween(int number, int least, int most) {
        return number >= least && number <= most;
    }

    private static boolean isStripe(int s) {
        return isBetween(s, 0, STRIPES - 1);
    }

    private static boolean isWidth(int width) {
        return isBetween(width, 1, WIDEST);
    }

    private static boolean isValue(int value) {
        return isBetween(value, 0, VALUES - 1);
    }

    private static boolean isSetting(int what) {
        return isBetween(what, 0, SETTINGS - 1);
    }

    /** Does a command of the text; false if the method would throw an exception. */
    private static boolean obeyTextCommand(State on, int letter, int first, int second) {
        switch (letter) {
            case 't':
                return on.addTask(first, second) != NONE;
            case 'l':
                return on.startJob(first, second) != NONE;
            case 'b':
                return tryToMakeBad(on, first);
            case 'g':
                return on.makeGood(first) != NONE;
            case 's':
                return on.stopTask(first) != NONE;
            case 'w':
                return on.passTicks(first) != NONE;
            default:
                return false;
        }
    }

    /** makeBad answers NONE for two reasons, so it can't tell by its answer that there is no such stripe. */
    private static boolean tryToMakeBad(State on, int s) {
        if (!isStripe(s)) {
            return false;
        }
        on.makeBad(s);
        return true;
    }

    /** Divides step by step, as the number with all its groups may be as long as a long. */
    private static long withoutLastGroups(long script, int groups) {
        long rest = script;
        for (int i = 0; i < groups; i++) {
            rest /= GROUP_END;
        }
        return rest;
    }

    /** Does a command of a script; false if it fails. */
    private static boolean obeyGroup(State on, int group) {
        int digits2To5 = group % 10000;
        int d2 = digits2To5 / 1000;
        int d4 = digits2To5 / 10 % 10;
        int d5 = digits2To5 % 10;
        int digits2To3 = digits2To5 / 100;
        int digits3To5 = digits2To5 % 1000;
        int digits4To5 = digits2To5 % 100;
        switch (group / 10000) {
            case 1:
                return d5 == 0 && on.startJob(d2, digits3To5 / 10) != NONE;
            case 2:
                return digits2To3 == 0 && on.passTicks(digits4To5) != NONE;
            case 3:
                return digits4To5 == 0 && tryToMakeBad(on, digits2To3);
            case 4:
                return digits4To5 == 0 && on.makeGood(digits2To3) != NONE;
            case 5:
                return digits3To5 == 0 && on.stopTask(d2) != NONE;
            case 6:
                return digits3To5 < 10 && on.isTaskInStatus(d2, d5);
            case 7:
                return on.isTaskAtValue(d2, digits3To5);
            case 8:
                return d4 == 0 && isStripe(digits2To3) && on.takerOf(digits2To3) == (d5 == 9 ? NONE : d5);
            case 9:
                return digits2To3 == 0 && on.ticksUntilIdle() <= digits4To5;
            default:
                return false;
        }
    }

    /** Does a turn of a simulation; what can't be done is left out. */
    private static void takeTurn(State on, int r) {
        int q = r / 8;
        switch (r % 8) {
            case 0:
                on.addTask(1 + q % 6, q / 8 % 997);
                break;
            case 1:
            case 2:
                on.startJob(q % 6, q / 8 % 12);
                break;
            case 3:
                if (q / 16 % 4 == 0) {
                    on.makeBad(q % 12);
                } else {
                    on.makeGood(q % 12);
                }
                break;
            case 4:
                on.stopTask(q % 6);
                break;
            default:
                on.passTicks(1 + q % 20);
                break;
        }
    }

    private static final class Task {
        int width;
        int value;
        int saved;
        int worked;
        /** How often it worked since its value was saved, without what a bad stripe has taken from it already. */
        int unsaved;
        int status;
        int first;

        void begin(int itsWidth, int itsValue) {
            width = itsWidth;
            value = itsValue;
            saved = itsValue;
            worked = 0;
            unsaved = 0;
            switchOff();
        }

        void copyFrom(Task other) {
            width = other.width;
            value = other.value;
            saved = other.saved;
            worked = other.worked;
            unsaved = other.unsaved;
            status = other.status;
            first = other.first;
        }

        boolean takes(int s) {
            return first != NONE && s >= first && s < first + width;
        }

        boolean takesOneOf(int firstStripe, int stripes) {
            return first != NONE && first < firstStripe + stripes && firstStripe < first + width;
        }

        void switchOff() {
            status = OFF;
            first = NONE;
        }

        void work() {
            value = (31 * value + 7 * width + 1) % VALUES;
            worked++;
            unsaved++;
        }

        void saveValue() {
            saved = value;
            unsaved = 0;
        }

        void fallBack() {
            switchOff();
            value = saved;
            unsaved = 0;
        }
    }

    /** All that actions change and undo, save and restore bring back. */
    private static final class State {
        final Task[] tasks = new Task[MOST_TASKS];
        final boolean[] bad = new boolean[STRIPES];
        final int[] settings = new int[SETTINGS];
        int count;
        int ticks;
        int works;
        /** NONE if the loader is idle. Whether the job is a loading or a move is told by the status of its task. */
        int jobTask;
        int jobFirst;
        int jobTicks;
        int jobsDone;
        int jobsLost;

        State() {
            for (int t = 0; t < MOST_TASKS; t++) {
                tasks[t] = new Task();
            }
            reset();
        }

        void reset() {
            for (int s = 0; s < STRIPES; s++) {
                bad[s] = false;
            }
            for (int i = 0; i < SETTINGS; i++) {
                settings[i] = FIRST_SETTINGS[i];
            }
            count = 0;
            ticks = 0;
            works = 0;
            jobsDone = 0;
            jobsLost = 0;
            endJob();
        }

        void copyFrom(State other) {
            for (int t = 0; t < MOST_TASKS; t++) {
                tasks[t].copyFrom(other.tasks[t]);
            }
            for (int s = 0; s < STRIPES; s++) {
                bad[s] = other.bad[s];
            }
            for (int i = 0; i < SETTINGS; i++) {
                settings[i] = other.settings[i];
            }
            count = other.count;
            ticks = other.ticks;
            works = other.works;
            jobTask = other.jobTask;
            jobFirst = other.jobFirst;
            jobTicks = other.jobTicks;
            jobsDone = other.jobsDone;
            jobsLost = other.jobsLost;
        }

        // tasks

        boolean hasTask(int t) {
            return taskNumbered(t) != null;
        }

        /** The task, or null if there is none of that number. */
        Task taskNumbered(int t) {
            return t >= 0 && t < count && t < MOST_TASKS ? tasks[t] : null;
        }

        boolean hasRoomForTask() {
            return isBetween(count, 0, MOST_TASKS - 1);
        }

        /** Answers the task's number, or NONE if there is no room for it. */
        int addTask(int width, int value) {
            if (!hasRoomForTask()) {
                return NONE;
            }
            tasks[count].begin(width, value);
            count++;
            return count - 1;
        }

        boolean canStop(int t) {
            Task task = taskNumbered(t);
            return task != null && task.status == RUNNING && t != jobTask;
        }

        /** Answers the task's value, or NONE if the task can't be stopped. */
        int stopTask(int t) {
            Task task = taskNumbered(t);
            if (task == null || !canStop(t)) {
                return NONE;
            }
            task.saveValue();
            task.switchOff();
            return task.value;
        }

        boolean isTaskInStatus(int t, int status) {
            Task task = taskNumbered(t);
            return task != null && task.status == status;
        }

        boolean isTaskAtValue(int t, int value) {
            Task task = taskNumbered(t);
            return task != null && task.value == value;
        }

        int countRunning() {
            int running = 0;
            for (int t = 0; t < count; t++) {
                if (isTaskInStatus(t, RUNNING)) {
                    running++;
                }
            }
            return running;
        }

        // stripes

        boolean isBad(int s) {
            return isStripe(s) && bad[s];
        }

        boolean isGood(int s) {
            return isStripe(s) && !bad[s];
        }

        int countBad() {
            int stripes = 0;
            for (int s = 0; s < STRIPES; s++) {
                if (bad[s]) {
                    stripes++;
                }
            }
            return stripes;
        }

        int takerOf(int s) {
            for (int t = 0; t < count && t < MOST_TASKS; t++) {
                if (tasks[t].takes(s)) {
                    return t;
                }
            }
            return NONE;
        }

        /** The task that is brought to the stripe by a move; one that is loaded there takes it already. */
        int moverTo(int s) {
            Task owner = jobOwner();
            if (owner == null || owner.status == LOADED) {
                return NONE;
            }
            return s >= jobFirst && s < jobFirst + owner.width ? jobTask : NONE;
        }

        boolean isFree(int s) {
            return isGood(s) && takerOf(s) == NONE && moverTo(s) == NONE;
        }

        int countFree() {
            int stripes = 0;
            for (int s = 0; s < STRIPES; s++) {
                if (isFree(s)) {
                    stripes++;
                }
            }
            return stripes;
        }

        int freeRowFrom(int s) {
            int length = 0;
            while (length < STRIPES && isFree(s + length)) {
                length++;
            }
            return length;
        }

        int longestFreeRow() {
            int longest = 0;
            for (int s = 0; s < STRIPES; s++) {
                longest = Math.max(longest, freeRowFrom(s));
            }
            return longest;
        }

        int shortestGap(int width) {
            int best = NONE;
            int shortest = STRIPES + 1;
            for (int s = 0; s < STRIPES; s++) {
                // behind a free stripe no gap begins: gaps are as long as possible
                int length = isFree(s - 1) ? 0 : freeRowFrom(s);
                if (length >= width && length < shortest) {
                    best = s;
                    shortest = length;
                }
            }
            return best;
        }

        int easiestWindow(int width) {
            int easiest = NONE;
            int least = 0;
            for (int s = 0; s + width <= STRIPES; s++) {
                if (canBeMadeFree(s, width)) {
                    int inTheWay = widthInTheWay(s, width);
                    if (easiest == NONE || inTheWay < least) {
                        easiest = s;
                        least = inTheWay;
                    }
                }
            }
            return easiest;
        }

        boolean canBeMadeFree(int first, int width) {
            for (int s = first; s < first + width; s++) {
                if (!isGood(s) || moverTo(s) != NONE) {
                    return false;
                }
            }
            return true;
        }

        int widthInTheWay(int first, int width) {
            int together = 0;
            for (int t = 0; t < count && t < MOST_TASKS; t++) {
                if (tasks[t].takesOneOf(first, width)) {
                    together += tasks[t].width;
                }
            }
            return together;
        }

        /** The task that is off if the stripe turns bad, or NONE. */
        int victimOf(int s) {
            int mover = moverTo(s);
            return isTaskInStatus(mover, HANDED_OVER) ? mover : takerOf(s);
        }

        int makeBad(int s) {
            if (!isStripe(s)) {
                return NONE;
            }
            int victim = victimOf(s);
            if (!isIdle() && (victim == jobTask || moverTo(s) == jobTask)) {
                endJob();
                jobsLost++;
            }
            Task hit = taskNumbered(victim);
            if (hit != null) {
                hit.fallBack();
            }
            bad[s] = true;
            return victim;
        }

        /** Answers 1 if the stripe was bad, 0 if it was good, NONE if there is no such stripe. */
        int makeGood(int s) {
            if (!isStripe(s)) {
                return NONE;
            }
            int was = bad[s] ? 1 : 0;
            bad[s] = false;
            return was;
        }

        // the loader

        boolean isIdle() {
            return jobTask == NONE;
        }

        Task jobOwner() {
            return taskNumbered(jobTask);
        }

        boolean canBring(int t, int first) {
            Task task = taskNumbered(t);
            if (task == null || !isStripe(first) || !isIdle()) {
                return false;
            }
            for (int s = first; s < first + task.width; s++) {
                int taker = takerOf(s);
                if (!isGood(s) || (taker != NONE && taker != t)) {
                    return false;
                }
            }
            return true;
        }

        /** Answers the ticks that the job takes in all, or NONE if the task can't be brought there. */
        int startJob(int t, int first) {
            Task task = taskNumbered(t);
            if (task == null || !canBring(t, first)) {
                return NONE;
            }
            int loading = settings[TICKS_A_STRIPE] * task.width;
            jobTask = t;
            jobFirst = first;
            jobTicks = loading;
            if (task.status == OFF) {
                task.status = LOADED;
                task.first = first;
                return loading;
            }
            int inAll = loading + settings[TICKS_TO_HAND_OVER];
            if (task.takesOneOf(first, task.width)) {
                task.status = HANDED_OVER;
                jobTicks = inAll;
            }
            return inAll;
        }

        void endJob() {
            jobTask = NONE;
            jobFirst = NONE;
            jobTicks = 0;
        }

        int ticksUntilIdle() {
            Task owner = jobOwner();
            if (owner == null) {
                return 0;
            }
            return owner.status == RUNNING ? jobTicks + settings[TICKS_TO_HAND_OVER] : jobTicks;
        }

        // ticks

        /** Answers how often tasks worked, or NONE if so many ticks can't go by in one call. */
        int passTicks(int n) {
            if (!isBetween(n, 1, MOST_TICKS)) {
                return NONE;
            }
            int before = works;
            for (int i = 0; i < n; i++) {
                passTick();
            }
            return works - before;
        }

        void passTick() {
            advanceJob();
            ticks++;
            int savingEvery = settings[TICKS_TO_SAVE];
            boolean saving = savingEvery > 0 && ticks % savingEvery == 0;
            for (int t = 0; t < count && t < MOST_TASKS; t++) {
                Task task = tasks[t];
                if (task.status == RUNNING) {
                    task.work();
                    works++;
                    if (saving) {
                        task.saveValue();
                    }
                }
            }
        }

        void advanceJob() {
            Task owner = jobOwner();
            if (owner == null) {
                return;
            }
            jobTicks--;
            if (jobTicks == 0 && owner.status == RUNNING) {
                owner.status = HANDED_OVER;
                jobTicks = settings[TICKS_TO_HAND_OVER];
            }
            if (jobTicks == 0) {
                owner.status = RUNNING;
                owner.first = jobFirst;
                endJob();
                jobsDone++;
            }
        }
    }

    /** The remembered states, in a ring of rows that are used again. */
    private static final class History {
        final State[] states = new State[MOST_REMEMBERED];
        int oldest = 0;
        int size = 0;

        History() {
            for (int i = 0; i < MOST_REMEMBERED; i++) {
                states[i] = new State();
            }
        }

        void forgetAll() {
            size = 0;
        }

        void remember(State state) {
            states[placeOf(size)].copyFrom(state);
            if (size < MOST_REMEMBERED) {
                size++;
            } else {
                oldest = placeOf(1);
            }
        }

        /** Brings the last remembered state back; answers how many are still remembered. */
        int takeBack(State into) {
            if (size > 0) {
                size--;
                into.copyFrom(states[placeOf(size)]);
            }
            return size;
        }

        private int placeOf(int age) {
            return (oldest + age) % MOST_REMEMBERED;
        }
    }

    /** The text buffer, and a reader that goes through it command by command. */
    private static final class Text {
        final char[] characters = new char[MOST_CHARACTERS];
        int length = 0;
        /** The index of the character that is read next; that of the error, once the reader has met one. */
        int at = 0;
        boolean wrong = false;
        /** The command that was read last. */
        int letter = NONE;
        int first = NONE;
        int second = NONE;

        boolean isFull() {
            return length >= MOST_CHARACTERS;
        }

        int put(char c) {
            if (isBetween(length, 0, MOST_CHARACTERS - 1)) {
                characters[length] = c;
                length++;
            }
            return length;
        }

        int makeEmpty() {
            int previous = length;
            length = 0;
            return previous;
        }

        int firstError() {
            beginReading();
            int commands = 0;
            while (commands < MOST_CHARACTERS && readCommand()) {
                commands++;
            }
            return wrong ? at : NONE;
        }

        void beginReading() {
            wrong = length == 0 || characters[0] != 'A';
            at = wrong ? 0 : 1;
        }

        /** Reads a command; false at the end of the text and at its error. */
        boolean readCommand() {
            if (wrong || !isInText(at)) {
                return false;
            }
            letter = characters[at];
            at++;
            switch (letter) {
                case 't':
                    first = readNumber(1, 1, WIDEST);
                    second = readNumber(3, 0, VALUES - 1);
                    break;
                case 'l':
                    first = readNumber(1, 0, MOST_TASKS - 1);
                    second = readNumber(2, 0, STRIPES - 1);
                    break;
                case 'b':
                case 'g':
                    first = readNumber(2, 0, STRIPES - 1);
                    break;
                case 's':
                    first = readNumber(1, 0, MOST_TASKS - 1);
                    break;
                case 'w':
                    first = readNumber(2, 1, MOST_TICKS);
                    break;
                default:
                    at--;
                    wrong = true;
                    break;
            }
            return !wrong;
        }

        /** Reads a number of so many digits; stops at a digit with which no number from least to most begins. */
        private int readNumber(int digits, int least, int most) {
            int number = 0;
            int span = 1;
            for (int i = 0; i < digits; i++) {
                span *= 10;
            }
            for (int i = 0; i < digits && !wrong; i++) {
                span /= 10;
                int digit = digitAt(at);
                number = number * 10 + digit;
                // the numbers that begin so go from number * span to one below (number + 1) * span
                wrong = digit == NONE || number * span > most || (number + 1) * span <= least;
                if (!wrong) {
                    at++;
                }
            }
            return wrong ? NONE : number;
        }

        private int digitAt(int index) {
            return isInText(index) && isBetween(characters[index], '0', '9') ? characters[index] - '0' : NONE;
        }

        private boolean isInText(int index) {
            return isBetween(index, 0, length - 1) && index < MOST_CHARACTERS;
        }
    }
}
