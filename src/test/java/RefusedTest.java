import java.util.function.Supplier;

/**
 * "A call that throws an exception changes nothing", and "If several exceptions apply to a call, the one that its
 * description names first is thrown": each cause of each call, alone and together with others, on objects with a job
 * of each kind, fourteen remembered states, both slots filled, and a whole array as the text.
 */
final class RefusedTest {
    private static final int[] WRONG_STRIPES = {-1, 12, Integer.MIN_VALUE, Integer.MAX_VALUE};
    private static final int[] WRONG_TASKS = {-1, 3, 6, Integer.MIN_VALUE, Integer.MAX_VALUE};

    public static void main(String[] args) {
        in("idle", Made::idle);
        in("loading", Made::loading);
        in("moving", Made::moving);
        in("handed over", Made::handedOver);
        in("onto its own", Made::ontoOwn);
        text();
        load();
        bringWhereIdle();
        bringWhereBusy();
        stop();
        undo();
        restore();
        refusedOverAndOver();
        Check.finish("RefusedTest");
    }

    /** What is refused in each state. */
    private static void in(String name, Supplier<StripeTasks> make) {
        lookedAtWrongly(name, make);
        wrongTasks(name, make);
        wrongStripes(name, make);
        wrongNumbers(name, make);
        wrongPairs(name, make);
        wrongScripts(name, make);
    }

    private static void lookedAtWrongly(String name, Supplier<StripeTasks> make) {
        for (int what : new int[] {-1, 9}) {
            Check.noArgument(name + ": about(" + what + ")", make, x -> x.about(what));
        }
        for (int what : new int[] {-1, 6}) {
            Check.noArgument(name + ": task(1, " + what + ")", make, x -> x.task(1, what));
        }
        for (int what : new int[] {-1, 3}) {
            Check.noArgument(name + ": stripe(1, " + what + ")", make, x -> x.stripe(1, what));
            Check.noArgument(name + ": job(" + what + ")", make, x -> x.job(what));
            Check.noArgument(name + ": setting(" + what + ")", make, x -> x.setting(what));
            Check.noArgument(name + ": coming(1, 1, " + what + ")", make, x -> x.coming(1, 1, what));
        }
    }

    private static void wrongTasks(String name, Supplier<StripeTasks> make) {
        for (int t : WRONG_TASKS) {
            Check.noIndex(name + ": task(" + t + ", 0)", make, x -> x.task(t, 0));
            Check.noIndex(name + ": bring(" + t + ", 0)", make, x -> x.bring(t, 0));
            Check.noIndex(name + ": stop(" + t + ")", make, x -> x.stop(t));
            Check.noIndex(name + ": coming(" + t + ", 1, 0)", make, x -> x.coming(t, 1, 0));
        }
    }

    private static void wrongStripes(String name, Supplier<StripeTasks> make) {
        for (int s : WRONG_STRIPES) {
            Check.noIndex(name + ": stripe(" + s + ", 0)", make, x -> x.stripe(s, 0));
            Check.noIndex(name + ": bring(2, " + s + ")", make, x -> x.bring(2, s));
            Check.noIndex(name + ": turnBad(" + s + ")", make, x -> x.turnBad(s));
            Check.noIndex(name + ": mend(" + s + ")", make, x -> x.mend(s));
            Check.noIndex(name + ": lost(" + s + ")", make, x -> x.lost(s));
        }
    }

    private static void wrongNumbers(String name, Supplier<StripeTasks> make) {
        for (int n : new int[] {-1, 0, 61}) {
            Check.noArgument(name + ": run(" + n + ")", make, x -> x.run(n));
            Check.noArgument(name + ": simulate(1, " + n + ")", make, x -> x.simulate(1, n));
        }
        for (int n : new int[] {-1, 0, 7}) {
            Check.noArgument(name + ": add(" + n + ", 0)", make, x -> x.add(n, 0));
            Check.noArgument(name + ": bestGap(" + n + ")", make, x -> x.bestGap(n));
        }
        for (int n : new int[] {-1, 997}) {
            Check.noArgument(name + ": add(1, " + n + ")", make, x -> x.add(1, n));
        }
        for (int n : new int[] {-1, 0, 13}) {
            Check.noArgument(name + ": window(" + n + ", 0)", make, x -> x.window(n, 0));
        }
        for (int n : new int[] {-1, 0, 201}) {
            Check.noArgument(name + ": coming(0, " + n + ", 0)", make, x -> x.coming(0, n, 0));
        }
        for (int n : new int[] {-1, 2}) {
            Check.noArgument(name + ": window(1, " + n + ")", make, x -> x.window(1, n));
            Check.noIndex(name + ": save(" + n + ")", make, x -> x.save(n));
            Check.noIndex(name + ": restore(" + n + ")", make, x -> x.restore(n));
        }
        int[][] settings = {{-1, 1}, {3, 1}, {0, 0}, {0, 10}, {1, -1}, {1, 21}, {2, 0}, {2, 100}};
        for (int[] one : settings) {
            Check.noArgument(name + ": set(" + one[0] + ", " + one[1] + ")", make, x -> x.set(one[0], one[1]));
        }
    }

    /** Of two wrong arguments, the task or the stripe is named first. */
    private static void wrongPairs(String name, Supplier<StripeTasks> make) {
        Check.noIndex(name + ": task(3, 6)", make, x -> x.task(3, 6));
        Check.noIndex(name + ": task(-1, -1)", make, x -> x.task(-1, -1));
        Check.noIndex(name + ": stripe(12, 3)", make, x -> x.stripe(12, 3));
        Check.noIndex(name + ": stripe(-1, -1)", make, x -> x.stripe(-1, -1));
        Check.noIndex(name + ": bring(3, 12)", make, x -> x.bring(3, 12));
        Check.noIndex(name + ": bring(-1, -1)", make, x -> x.bring(-1, -1));
        Check.noIndex(name + ": bring(3, 8), a bad one", make, x -> x.bring(3, 8));
        Check.noIndex(name + ": bring(0, 12), beyond 11", make, x -> x.bring(0, 12));
        Check.noIndex(name + ": coming(3, 0, 0)", make, x -> x.coming(3, 0, 0));
        Check.noIndex(name + ": coming(3, 201, 3)", make, x -> x.coming(3, 201, 3));
        Check.noIndex(name + ": coming(-1, 1, -1)", make, x -> x.coming(-1, 1, -1));
        Check.noArgument(name + ": coming(0, 0, 3)", make, x -> x.coming(0, 0, 3));
        Check.noArgument(name + ": add(0, 997)", make, x -> x.add(0, 997));
        Check.noArgument(name + ": set(3, 100)", make, x -> x.set(3, 100));
        Check.noArgument(name + ": window(13, 2)", make, x -> x.window(13, 2));
        Check.noArgument(name + ": runScript(4, -1)", make, x -> x.runScript(4, -1));
    }

    private static void wrongScripts(String name, Supplier<StripeTasks> make) {
        for (int n : new int[] {-1, 0, 4}) {
            Check.noArgument(name + ": runScript(" + n + ", 20001)", make, x -> x.runScript(n, 20001));
        }
        long most = 99999;
        for (int n = 1; n <= 3; n++) {
            int commands = n;
            long more = most + 1;
            Check.noArgument(name + ": runScript(" + n + ", -1)", make, x -> x.runScript(commands, -1));
            Check.noArgument(name + ": runScript(" + n + ", " + more + ")", make, x -> x.runScript(commands, more));
            most = most * 100000 + 99999;
        }
    }

    private static StripeTasks fullWith(String end) {
        StripeTasks x = Made.idle();
        x.clearText();
        Check.append(x, "A" + "w01".repeat(39) + end);
        return x;
    }

    private static void text() {
        for (int c : new int[] {-1, 256, Integer.MIN_VALUE, Integer.MAX_VALUE}) {
            Check.noArgument("append(" + c + ")", Made::idle, x -> x.append(c));
            Check.noArgument("append(" + c + ") to 120", () -> fullWith("s0"), x -> x.append(c));
        }
        Check.noState("append to a whole array of 120", () -> fullWith("s0"), x -> x.append('A'));
        Check.noState("append to 120 with an error at the end", () -> fullWith("s9"), x -> x.append('0'));
        Check.noState("append to 120 that end too soon", () -> fullWith("w0"),
                x -> x.append('1'));
    }

    private static void load() {
        String[] wrong = {"", "a", "At", "At7", "At1997", "At100", "Al6", "Al012", "Ab12", "Ag2", "Aw00", "Aw61", "As6", "A ",
            "At1000t1000 ", "At1000l000w05x"};
        for (String text : wrong) {
            Check.noState("load of " + text, () -> {
                StripeTasks x = Made.moving();
                x.clearText();
                Check.append(x, text);
                return x;
            }, StripeTasks::load);
        }
    }

    private static void bringWhereIdle() {
        Check.noState("beyond the stripe 11", Made::idle, x -> x.bring(0, 10));
        Check.noState("beyond the stripe 11, its own stripe", Made::idle, x -> x.bring(1, 11));
        Check.noState("onto a bad one", Made::idle, x -> x.bring(2, 8));
        Check.noState("onto a bad one at the end", Made::idle, x -> x.bring(0, 6));
        Check.noState("onto one that another takes", Made::idle, x -> x.bring(2, 5));
        Check.noState("onto one that another takes at the end", Made::idle, x -> x.bring(1, 2));
        Check.noState("onto its own and a bad one", Made::idle, x -> x.bring(1, 8));
        Check.noState("onto its own and beyond a bad one", () -> Check.loaded("At3000l004w09b07"), x -> x.bring(0, 5));
    }

    private static void bringWhereBusy() {
        for (int t = 0; t <= 2; t++) {
            for (int s : new int[] {0, 1, 3, 6, 8, 9, 11}) {
                int task = t;
                String call = "bring(" + t + ", " + s + ")";
                Check.noState("loading: " + call, Made::loading, x -> x.bring(task, s));
                Check.noState("moving: " + call, Made::moving, x -> x.bring(task, s));
                Check.noState("handed over: " + call, Made::handedOver, x -> x.bring(task, s));
                Check.noState("onto its own: " + call, Made::ontoOwn, x -> x.bring(task, s));
            }
        }
    }

    private static void stop() {
        Check.noState("stop of one that is off", Made::idle, x -> x.stop(2));
        Check.noState("stop of a loaded one", Made::loading, x -> x.stop(2));
        Check.noState("stop of one that runs and moves", Made::moving, x -> x.stop(1));
        Check.noState("stop of a handed over one", Made::handedOver, x -> x.stop(1));
        Check.noState("stop of one that moves onto its own", Made::ontoOwn, x -> x.stop(0));
        Check.noState("stop of one that is off by a bad stripe", () -> Check.loaded("At1000l000w03b00"), x -> x.stop(0));
        Check.noState("stop of a stopped one", () -> Check.loaded("At1000l000w03s0"), x -> x.stop(0));
        int value = Check.valueAfter(3, 100, 8);
        Check.same("another may be stopped while one is loaded", Made.loading().stop(0), value);
        Check.same("another may be stopped while one moves", Made.moving().stop(0), value);
    }

    private static void undo() {
        Supplier<StripeTasks> loaded = () -> Check.loaded("At1000l000w05");
        Check.noState("undo behind load", loaded, StripeTasks::undo);
        Check.noState("undo behind restore", () -> {
            StripeTasks x = Made.moving();
            x.restore(1);
            return x;
        }, StripeTasks::undo);
        Check.noState("undo when all is taken back", () -> {
            StripeTasks x = loaded.get();
            x.run(1);
            x.undo();
            return x;
        }, StripeTasks::undo);
    }

    private static void restore() {
        Supplier<StripeTasks> first = () -> {
            StripeTasks x = Check.loaded("At1000l000w05");
            x.save(0);
            x.run(3);
            return x;
        };
        Check.noState("restore of the other slot", first, x -> x.restore(1));
        Check.noIndex("restore(2), which can't be filled", first, x -> x.restore(2));
        Check.noIndex("restore(-1) where nothing is saved", StripeTasks::new, x -> x.restore(-1));
        Check.noIndex("restore(2) where nothing is saved", StripeTasks::new, x -> x.restore(2));
    }

    /** What is refused a hundred times changes nothing either. */
    private static void refusedOverAndOver() {
        Check.changesNothing("a hundred refused calls", Made::moving, x -> {
            for (int i = 0; i < 10; i++) {
                Check.answer(x, y -> y.append(256));
                Check.answer(x, y -> y.add(7, 0));
                Check.answer(x, y -> y.bring(2, 8));
                Check.answer(x, y -> y.stop(2));
                Check.answer(x, y -> y.turnBad(12));
                Check.answer(x, y -> y.mend(-1));
                Check.answer(x, y -> y.run(61));
                Check.answer(x, y -> y.set(1, 21));
                Check.answer(x, y -> y.save(2));
                Check.answer(x, y -> y.restore(-1));
            }
            return 0;
        });
    }
}
