import java.util.function.Supplier;

/**
 * Every number that a call takes: just below its range, at both ends, just above, and far outside. What is refused
 * changes nothing (Check.range looks at that), on objects with fourteen remembered states and with both slots filled.
 */
final class RangeTest {
    private static final Class<IndexOutOfBoundsException> INDEX = IndexOutOfBoundsException.class;
    private static final Class<IllegalArgumentException> ARGUMENT = IllegalArgumentException.class;

    public static void main(String[] args) {
        text();
        whatThereIs();
        add();
        bring();
        otherActions();
        set();
        finding();
        coming();
        script();
        scriptDigits();
        simulate();
        slots();
        Check.finish("RangeTest");
    }

    private static void text() {
        Check.range("P2 append to nothing", ARGUMENT, StripeTasks::new, StripeTasks::append, 0, 1, 255, 1);
        Check.range("P2 append to 119", ARGUMENT, () -> Check.withText("A" + "x".repeat(118)), StripeTasks::append,
                0, 120, 255, 120);
    }

    private static void whatThereIs() {
        Check.range("P6 about", ARGUMENT, Made::loading, StripeTasks::about, 0, 3, 8, 10);
        Check.range("P7 task(t, 0)", INDEX, Made::loading, (x, t) -> x.task(t, 0), 0, 3, 2, 1);
        Check.range("P7 task(t, 5) of six", INDEX, Made::full, (x, t) -> x.task(t, 5), 0, 0, 5, 10);
        Check.range("P7 task(1, what)", ARGUMENT, Made::loading, (x, what) -> x.task(1, what), 0, 2, 5, 9);
        Check.range("P8 stripe(s, 0)", INDEX, Made::full, (x, s) -> x.stripe(s, 0), 0, 0, 11, 5);
        Check.range("P8 stripe(s, 1)", INDEX, Made::moving, (x, s) -> x.stripe(s, 1), 0, 1, 11, -1);
        Check.range("P8 stripe(s, 2)", INDEX, Made::allBad, (x, s) -> x.stripe(s, 2), 0, 1, 11, 1);
        Check.range("P8 stripe(4, what)", ARGUMENT, Made::full, (x, what) -> x.stripe(4, what), 0, 2, 2, 0);
        Check.range("P9 job", ARGUMENT, Made::loading, StripeTasks::job, 0, 2, 2, 3);
        Check.range("P9 job of an idle loader", ARGUMENT, Made::idle, StripeTasks::job, 0, -1, 2, -1);
        Check.range("P10 setting", ARGUMENT, Made::idle, StripeTasks::setting, 0, 3, 2, 33);
    }

    /** Adds, and answers the number of the task, its width and its value in one number. */
    private static int add(StripeTasks x, int width, int value) {
        int t = x.add(width, value);
        return 10000 * t + 1000 * x.task(t, 0) + x.task(t, 1);
    }

    private static void add() {
        Check.range("P11 add(width, 7)", ARGUMENT, Made::loading, (x, width) -> add(x, width, 7), 1, 31007, 6, 36007);
        Check.range("P11 add(2, value)", ARGUMENT, Made::loading, (x, value) -> add(x, 2, value), 0, 32000, 996, 32996);
        Check.range("P11 the first task, add(width, 7)", ARGUMENT, StripeTasks::new, (x, width) -> add(x, width, 7),
                1, 1007, 6, 6007);
        Supplier<StripeTasks> five = () -> Check.loaded("At1000t1000t1000t1000t1000");
        Check.range("P11 the last task, add(1, value)", ARGUMENT, five, (x, value) -> add(x, 1, value),
                0, 51000, 996, 51996);
        Check.range("P11 a width where there are 6", ARGUMENT, Made::full, (x, width) -> state(x, y -> y.add(width, 0)),
                1, 0, 6, 0);
        Check.range("P11 a value where there are 6", ARGUMENT, Made::full, (x, value) -> state(x, y -> y.add(1, value)),
                0, 0, 996, 0);
    }

    /** 0 if the call throws an IllegalStateException, and 1 if it answers; what else it throws goes through. */
    private static int state(StripeTasks x, Check.Call call) {
        try {
            call.on(x);
            return 1;
        } catch (IllegalStateException e) {
            return 0;
        }
    }

    private static void bring() {
        Check.range("P12 bring(t, 0)", INDEX, Made::idle, (x, t) -> x.bring(t, 0), 0, 11, 2, 3);
        Check.range("P12 bring(2, s)", INDEX, Made::idle, (x, s) -> x.bring(2, s), 0, 3, 11, 3);
        Check.range("P12 bring(t, t + t) of six", INDEX, Made::full, (x, t) -> x.bring(t, t + t), 0, 8, 5, 8);
        Check.range("P12 a task where the loader has a job", INDEX, Made::loading, (x, t) -> state(x, y -> y.bring(t, 0)),
                0, 0, 2, 0);
        Check.range("P12 a stripe where the loader has a job", INDEX, Made::loading, (x, s) -> state(x, y -> y.bring(2, s)),
                0, 0, 11, 0);
        for (int width = 1; width <= 6; width++) {
            int last = 12 - width;
            Supplier<StripeTasks> off = Check.withTask(width);
            for (int s = 0; s < 12; s++) {
                int asked = s;
                String due = s <= last ? Integer.toString(3 * width) : "IllegalStateException";
                Check.sameText("P12 the width " + width + " to " + s, Check.answer(off.get(), x -> x.bring(0, asked)), due);
            }
            for (int s = last + 1; s < 12; s++) {
                int beyond = s;
                Check.noState("P12 beyond the stripe 11", off, x -> x.bring(0, beyond));
            }
        }
    }

    private static void otherActions() {
        Check.range("P13 stop", INDEX, Made::full, StripeTasks::stop, 0, Check.valueAfter(2, 0, 46), 5,
                Check.valueAfter(2, 996, 16));
        Check.range("P14 turnBad", INDEX, Made::full, StripeTasks::turnBad, 0, 0, 11, 5);
        Check.range("P14 turnBad of a bad one", INDEX, Made::allBad, StripeTasks::turnBad, 0, -1, 11, -1);
        Check.range("P15 mend", INDEX, Made::allBad, StripeTasks::mend, 0, 1, 11, 1);
        Check.range("P15 mend of a good one", INDEX, Made::full, StripeTasks::mend, 0, 0, 11, 0);
        Check.range("P16 run", ARGUMENT, Made::full, StripeTasks::run, 1, 6, 60, 360);
        Check.range("P16 run without a task", ARGUMENT, StripeTasks::new, (x, n) -> x.run(n) + x.about(1), 1, 1, 60, 60);
    }

    private static void set() {
        Check.range("P17 set(what, 5)", ARGUMENT, Made::idle, (x, what) -> x.set(what, 5), 0, 3, 2, 33);
        Check.range("P17 set(0, v)", ARGUMENT, Made::loading, (x, v) -> 100 * x.set(0, v) + x.setting(0), 1, 301, 9, 309);
        Check.range("P17 set(1, v)", ARGUMENT, Made::loading, (x, v) -> 100 * x.set(1, v) + x.setting(1), 0, 200, 20, 220);
        Check.range("P17 set(2, v)", ARGUMENT, Made::idle, (x, v) -> 100 * x.set(2, v) + x.setting(2), 1, 3301, 99, 3399);
    }

    private static void finding() {
        Supplier<StripeTasks> gap = () -> Check.loaded("Ab01b09");
        Check.range("P19 bestGap", ARGUMENT, gap, StripeTasks::bestGap, 1, 0, 6, 2);
        Check.range("P20 window(width, 0)", ARGUMENT, StripeTasks::new, (x, width) -> x.window(width, 0), 1, 0, 12, 0);
        Check.range("P20 window(width, 1)", ARGUMENT, Made::full, (x, width) -> x.window(width, 1), 1, 2, 12, 12);
        Check.range("P20 window(width, 1) of none", ARGUMENT, Made::allBad, (x, width) -> x.window(width, 1), 1, -1, 12, -1);
        Check.range("P20 window(4, what)", ARGUMENT, Made::moving, (x, what) -> x.window(4, what), 0, 2, 1, 3);
        Check.range("P23 lost", INDEX, Made::full, StripeTasks::lost, 0, 1, 11, 1);
    }

    private static void coming() {
        Check.range("P22 coming(t, 1, 2)", INDEX, Made::idle, (x, t) -> x.coming(t, 1, 2), 0, 1, 2, 0);
        Check.range("P22 coming(t, 1, 0) of six", INDEX, Made::full, (x, t) -> x.coming(t, 1, 0),
                0, Check.valueAfter(2, 0, 47), 5, Check.valueAfter(2, 996, 17));
        Check.range("P22 coming(0, n, 0)", ARGUMENT, Made::idle, (x, n) -> x.coming(0, n, 0),
                1, Check.valueAfter(3, 100, 9), 200, Check.valueAfter(3, 100, 208));
        Check.range("P22 coming(2, n, 2)", ARGUMENT, Made::loading, (x, n) -> x.coming(2, n, 2), 1, 0, 200, 198);
        Check.range("P22 coming(0, 5, what)", ARGUMENT, Made::idle, (x, what) -> x.coming(0, 5, what),
                0, Check.valueAfter(3, 100, 13), 2, 5);
    }

    private static void script() {
        Check.range("P24 runScript(n, 20001)", ARGUMENT, Made::idle, (x, n) -> x.runScript(n, 20001), 1, -1, 3, 0);
        Check.range("P24 runScript(n, 0)", ARGUMENT, Made::idle, (x, n) -> x.runScript(n, 0), 1, 0, 3, 0);
        long most = 99999;
        for (int n = 1; n <= 3; n++) {
            int asked = n;
            long highest = most;
            Check.onlyTells("P24 runScript(" + n + ", 0)", Made::idle, x -> x.runScript(asked, 0), 0);
            Check.onlyTells("P24 runScript(" + n + ", " + most + ")", Made::idle, x -> x.runScript(asked, highest), 0);
            for (long script : new long[] {-1, highest + 1, Long.MIN_VALUE, Long.MAX_VALUE, -20001}) {
                Check.noArgument("P24 runScript(" + n + ", " + script + ")", Made::idle, x -> x.runScript(asked, script));
            }
            most = most * 100000 + 99999;
        }
    }

    /** The group as the only command: whether it succeeds. */
    private static int succeeds(StripeTasks x, int group) {
        return x.runScript(1, group) == -1 ? 1 : 0;
    }

    /** The first and the last group that succeed; those beside them fail. */
    private static void digits(String what, Supplier<StripeTasks> make, int base, int step, int least, int most) {
        for (int n = 0; n < 10; n++) {
            int group = base + n * step;
            int due = n >= least && n <= most ? 1 : 0;
            Check.onlyTells("P24 " + what + ", " + group, make, x -> succeeds(x, group), due);
        }
    }

    private static void numbers(String what, Supplier<StripeTasks> make, int base, int step, int least, int most) {
        for (int n : new int[] {0, least - 1, least, most, most + 1, 99}) {
            if (n >= 0 && n <= 99) {
                int group = base + n * step;
                int due = n >= least && n <= most ? 1 : 0;
                Check.onlyTells("P24 " + what + ", " + group, make, x -> succeeds(x, group), due);
            }
        }
    }

    private static void scriptDigits() {
        numbers("bring(2, ss)", Check.withTask(1), 10000, 10, 0, 11);
        digits("bring(t, 0)", Made::idle, 10000, 1000, 0, 2);
        digits("bring(t, 0) with another digit behind it", Made::idle, 12000, 1, 0, 0);
        numbers("run(nn)", Made::idle, 20000, 1, 1, 60);
        digits("run(1) with another digit before it", Made::idle, 20001, 1000, 0, 0);
        digits("run(1) with another digit between", Made::idle, 20001, 100, 0, 0);
        numbers("turnBad(ss)", Made::idle, 30000, 100, 0, 11);
        digits("turnBad(0) with another digit", Made::idle, 30000, 10, 0, 0);
        digits("turnBad(0) with another digit at the end", Made::idle, 30000, 1, 0, 0);
        numbers("mend(ss)", Made::idle, 40000, 100, 0, 11);
        digits("mend(0) with another digit", Made::idle, 40000, 10, 0, 0);
        digits("mend(0) with another digit at the end", Made::idle, 40000, 1, 0, 0);
        digits("stop(t)", Made::full, 50000, 1000, 0, 5);
        digits("stop(t) of three", Made::idle, 50000, 1000, 0, 1);
        digits("stop(0) with another digit", Made::full, 50000, 100, 0, 0);
        digits("stop(0) with another digit behind it", Made::full, 50000, 10, 0, 0);
        digits("stop(0) with another digit at the end", Made::full, 50000, 1, 0, 0);
        digits("the task t runs", Made::full, 60002, 1000, 0, 5);
        digits("the task 0 is what k tells", Made::full, 60000, 1, 2, 2);
        digits("the task 0 runs with another digit", Made::full, 60002, 100, 0, 0);
        digits("the task 0 runs with another digit behind it", Made::full, 60002, 10, 0, 0);
        digits("the value of t is 0", () -> Check.loaded("At1000t1000t1000t1000t1000t1000"), 70000, 1000, 0, 5);
        digits("the value of t is 996", () -> Check.loaded("At1996t1996t1996t1996t1996t1996"), 70996, 1000, 0, 5);
        numbers("the value is 0vv", () -> Check.loaded("At1007"), 70000, 1, 7, 7);
        digits("the value is v96", () -> Check.loaded("At1996"), 70096, 100, 9, 9);
        digits("the value is 99v", () -> Check.loaded("At1996"), 70990, 1, 6, 6);
        numbers("the stripe ss is taken by none", StripeTasks::new, 80009, 100, 0, 11);
        digits("the stripe 0 with another digit", StripeTasks::new, 80009, 10, 0, 0);
        for (int t = 0; t <= 5; t++) {
            digits("the stripe is taken by the task t", Made::full, 80000 + 200 * t, 1, t, t);
        }
        digits("the stripe is taken by none", Made::allBad, 80000, 1, 9, 9);
        numbers("the loader is idle behind nn", Made::loading, 90000, 1, 3, 99);
        numbers("the loader is idle", Made::idle, 90000, 1, 0, 99);
        digits("idle with another digit before it", Made::idle, 90000, 1000, 0, 0);
        digits("idle with another digit between", Made::idle, 90000, 100, 0, 0);
        digits("what is no command", Made::idle, 0, 1000, 10, 10);
    }

    private static void simulate() {
        for (long seed : new long[] {0, -1, 1, Long.MIN_VALUE, Long.MAX_VALUE}) {
            int one = ScriptTest.turns(Made.idle(), seed, 1);
            int sixty = ScriptTest.turns(Made.idle(), seed, 60);
            Check.range("P25 simulate(" + seed + ", m)", ARGUMENT, Made::idle, (x, m) -> x.simulate(seed, m),
                    1, one, 60, sixty);
        }
    }

    private static void slots() {
        Check.range("P26 save", INDEX, Made::idle, (x, slot) -> x.save(slot) + x.restore(slot), 0, 32, 1, 32);
        Check.range("P27 restore", INDEX, Made::idle, StripeTasks::restore, 0, 15, 1, 16);
        Check.range("P27 restore of nothing", INDEX, StripeTasks::new, (x, slot) -> state(x, y -> y.restore(slot)),
                0, 0, 1, 0);
    }
}
