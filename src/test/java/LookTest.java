/** Promises 1 and 6 to 10: a new object, about, task, stripe, job, setting. */
final class LookTest {
    public static void main(String[] args) {
        newObject();
        about();
        aboutRows();
        aboutJobs();
        task();
        stripe();
        job();
        setting();
        wrongNumbers();
        Check.finish("LookTest");
    }

    private static void newObject() {
        StripeTasks x = new StripeTasks();
        int[] due = {0, 0, 0, 12, 12, 0, 0, 0, 0};
        for (int what = 0; what < due.length; what++) {
            Check.same("P1 about(" + what + ")", x.about(what), due[what]);
        }
        for (int s = 0; s < 12; s++) {
            Check.same("P1 taker of " + s, x.stripe(s, 0), -1);
            Check.same("P1 mover to " + s, x.stripe(s, 1), -1);
            Check.same("P1 good is " + s, x.stripe(s, 2), 0);
        }
        Check.same("P1 idle", x.idleIn(), 0);
        Check.same("P1 no text", x.clearText(), 0);
        Check.same("P1 NONE", StripeTasks.NONE, -1);
        Check.noIndex("P1 no task", StripeTasks::new, y -> y.task(0, 0));
        Check.noState("P1 no state remembered", StripeTasks::new, StripeTasks::undo);
        Check.noState("P1 nothing saved in 0", StripeTasks::new, y -> y.restore(0));
        Check.noState("P1 nothing saved in 1", StripeTasks::new, y -> y.restore(1));
        StripeTasks other = Check.loaded("At1000l000w20b05");
        Check.sameText("P1 objects have nothing in common", Check.state(new StripeTasks()), Check.state(x));
        Check.same("P1 the other one", other.about(1), 20);
    }

    /** Task 0 runs on 0 to 2, task 1 is loaded on 4 and 5, task 2 is off, 8 and 11 are bad. */
    private static StripeTasks ordinary() {
        return Check.loaded("At3100t2200t4300l000w09l104b08b11w03");
    }

    private static void about() {
        int[] due = {3, 12, 1, 5, 2, 2, 1, 0, 4};
        for (int what = 0; what < due.length; what++) {
            int asked = what;
            Check.onlyTells("P6 about(" + what + ")", LookTest::ordinary, y -> y.about(asked), due[what]);
        }
        StripeTasks x = ordinary();
        x.run(3);
        Check.same("P6 running at the end of the loading", x.about(2), 2);
        Check.same("P6 works of both", x.about(8), 8);
        x.bring(1, 5);
        Check.same("P6 handed over does not run", x.about(2), 1);
        Check.same("P6 brought to is not free", x.about(3), 4);
        x.undo();
        x.bring(1, 6);
        Check.same("P6 moving runs", x.about(2), 2);
        Check.same("P6 old and new are not free", x.about(3), 3);
    }

    private static void aboutRows() {
        Check.same("P6 row between", Check.loaded("Ab03b09").about(4), 5);
        Check.same("P6 row at the begin", Check.loaded("Ab06b09").about(4), 6);
        Check.same("P6 row at the end", Check.loaded("Ab00b04").about(4), 7);
        Check.same("P6 a bad one twice", Check.loaded("Ab04b04").about(5), 1);
        StripeTasks x = new StripeTasks();
        for (int s = 0; s < 12; s++) {
            x.turnBad(s);
        }
        Check.same("P6 no row", x.about(4), 0);
        Check.same("P6 none free", x.about(3), 0);
        Check.same("P6 all bad", x.about(5), 12);
        Check.same("P6 a row of loaded and brought to", Check.loaded("At3000l000w09l004").about(4), 5);
    }

    private static void aboutJobs() {
        StripeTasks x = Check.loaded("At2000l000w05");
        Check.same("P6 a job that lasts is not done", x.about(6), 0);
        x.run(1);
        Check.same("P6 a loading is done", x.about(6), 1);
        x.bring(0, 5);
        x.run(6);
        Check.same("P6 handed over is not done", x.about(6), 1);
        x.run(2);
        Check.same("P6 a move is done", x.about(6), 2);
        x.bring(0, 4);
        x.turnBad(4);
        Check.same("P6 a move is lost", x.about(7), 1);
        Check.same("P6 and not done", x.about(6), 2);
        x.bring(0, 5);
        x.turnBad(5);
        Check.same("P6 a loading is lost", x.about(7), 2);
        x.turnBad(5);
        x.turnBad(6);
        Check.same("P6 nothing more is lost", x.about(7), 2);
    }

    private static void task() {
        int[] runs = {3, Check.valueAfter(3, 100, 4), Check.valueAfter(3, 100, 2), 4, 2, 0};
        int[] loaded = {2, 200, 200, 0, 1, 4};
        int[] off = {4, 300, 300, 0, 0, -1};
        for (int what = 0; what <= 5; what++) {
            int asked = what;
            Check.onlyTells("P7 task(0, " + what + ")", LookTest::ordinary, y -> y.task(0, asked), runs[what]);
            Check.onlyTells("P7 task(1, " + what + ")", LookTest::ordinary, y -> y.task(1, asked), loaded[what]);
            Check.onlyTells("P7 task(2, " + what + ")", LookTest::ordinary, y -> y.task(2, asked), off[what]);
        }
        StripeTasks x = ordinary();
        x.run(3);
        x.bring(0, 1);
        Check.same("P7 handed over", x.task(0, 4), 3);
        Check.same("P7 its first stripe is the old one", x.task(0, 5), 0);
        Check.same("P7 width 6", Check.loaded("At6996").task(0, 0), 6);
    }

    private static void stripe() {
        int[] taker = {0, 0, 0, -1, 1, 1, -1, -1, -1, -1, -1, -1};
        for (int s = 0; s < 12; s++) {
            int asked = s;
            Check.onlyTells("P8 taker of " + s, LookTest::ordinary, y -> y.stripe(asked, 0), taker[s]);
            Check.onlyTells("P8 a loading is no move", LookTest::ordinary, y -> y.stripe(asked, 1), -1);
            Check.onlyTells("P8 bad is " + s, LookTest::ordinary, y -> y.stripe(asked, 2), s == 8 || s == 11 ? 1 : 0);
        }
        StripeTasks x = Check.loaded("At1000t3000l103w09l101");
        for (int s = 0; s < 12; s++) {
            Check.same("P8 a taker that moves, " + s, x.stripe(s, 0), s >= 3 && s <= 5 ? 1 : -1);
            Check.same("P8 a mover, " + s, x.stripe(s, 1), s >= 1 && s <= 3 ? 1 : -1);
        }
        x.run(11);
        Check.same("P8 the old one is free behind it", x.stripe(4, 0), -1);
        Check.same("P8 the new one is taken behind it", x.stripe(1, 0), 1);
        Check.same("P8 and not brought to", x.stripe(1, 1), -1);
        x.bring(1, 6);
        Check.same("P8 a mover that runs", x.stripe(8, 1), 1);
        Check.same("P8 does not take it", x.stripe(8, 0), -1);
        Check.same("P8 the one behind", x.stripe(9, 1), -1);
    }

    private static void job() {
        Check.onlyTells("P9 idle: no task", StripeTasks::new, y -> y.job(0), -1);
        Check.onlyTells("P9 idle: no stripe", StripeTasks::new, y -> y.job(1), -1);
        Check.onlyTells("P9 idle: no ticks", StripeTasks::new, y -> y.job(2), -1);
        Check.onlyTells("P9 the task", LookTest::ordinary, y -> y.job(0), 1);
        Check.onlyTells("P9 the stripe", LookTest::ordinary, y -> y.job(1), 4);
        Check.onlyTells("P9 the ticks", LookTest::ordinary, y -> y.job(2), 3);
        StripeTasks x = ordinary();
        x.run(3);
        Check.same("P9 done: idle", x.job(0), -1);
        x.bring(1, 6);
        Check.same("P9 a move without handing over", x.job(2), 6);
        x.run(5);
        Check.same("P9 the last tick of it", x.job(2), 1);
        x.run(1);
        Check.same("P9 the handing over", x.job(2), 2);
        x.run(1);
        Check.same("P9 its last tick", x.job(2), 1);
        x.run(1);
        Check.same("P9 idle behind the move", x.job(2), -1);
        x.bring(1, 5);
        Check.same("P9 a move onto own stripes with handing over", x.job(2), 8);
        Check.same("P9 its new stripe", x.job(1), 5);
        x.turnBad(6);
        Check.same("P9 a job that is gone", x.job(1), -1);
    }

    private static void setting() {
        Check.onlyTells("P10 ticks for a stripe", StripeTasks::new, y -> y.setting(0), 3);
        Check.onlyTells("P10 ticks of a handing over", StripeTasks::new, y -> y.setting(1), 2);
        Check.onlyTells("P10 how often saved", StripeTasks::new, y -> y.setting(2), 10);
        StripeTasks x = new StripeTasks();
        x.set(0, 4);
        x.set(1, 5);
        x.set(2, 6);
        Check.same("P10 setting(0)", x.setting(0), 4);
        Check.same("P10 setting(1)", x.setting(1), 5);
        Check.same("P10 setting(2)", x.setting(2), 6);
    }

    private static void wrongNumbers() {
        int[] far = {-1, Integer.MIN_VALUE, Integer.MAX_VALUE};
        for (int n : far) {
            Check.noArgument("P6 about(" + n + ")", LookTest::ordinary, y -> y.about(n));
            Check.noArgument("P7 task(0, " + n + ")", LookTest::ordinary, y -> y.task(0, n));
            Check.noIndex("P7 task(" + n + ", 0)", LookTest::ordinary, y -> y.task(n, 0));
            Check.noIndex("P7 task(" + n + ", -1)", LookTest::ordinary, y -> y.task(n, -1));
            Check.noArgument("P8 stripe(0, " + n + ")", LookTest::ordinary, y -> y.stripe(0, n));
            Check.noIndex("P8 stripe(" + n + ", 0)", LookTest::ordinary, y -> y.stripe(n, 0));
            Check.noArgument("P9 job(" + n + ")", LookTest::ordinary, y -> y.job(n));
            Check.noArgument("P9 job of an idle one, " + n, StripeTasks::new, y -> y.job(n));
            Check.noArgument("P10 setting(" + n + ")", LookTest::ordinary, y -> y.setting(n));
        }
        Check.noArgument("P6 about(9)", LookTest::ordinary, y -> y.about(9));
        Check.noArgument("P7 task(0, 6)", LookTest::ordinary, y -> y.task(0, 6));
        Check.noIndex("P7 task(3, 0)", LookTest::ordinary, y -> y.task(3, 0));
        Check.noIndex("P7 task(3, 6)", LookTest::ordinary, y -> y.task(3, 6));
        Check.noIndex("P7 task(6, 0) of six", () -> Check.loaded("At1000t1000t1000t1000t1000t1000"), y -> y.task(6, 0));
        Check.noArgument("P8 stripe(11, 3)", LookTest::ordinary, y -> y.stripe(11, 3));
        Check.noIndex("P8 stripe(12, 0)", LookTest::ordinary, y -> y.stripe(12, 0));
        Check.noIndex("P8 stripe(12, 3)", LookTest::ordinary, y -> y.stripe(12, 3));
        Check.noArgument("P9 job(3)", LookTest::ordinary, y -> y.job(3));
        Check.noArgument("P10 setting(3)", LookTest::ordinary, y -> y.setting(3));
    }
}
