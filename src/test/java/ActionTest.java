import java.util.function.Supplier;

/** Promises 11 to 18: add, bring, stop, turnBad, mend, run, set, undo. */
final class ActionTest {
    private static final int[] FAR = {-1, Integer.MIN_VALUE, Integer.MAX_VALUE};

    public static void main(String[] args) {
        add();
        bringLoads();
        bringMoves();
        bringOntoOwn();
        bringRefused();
        stop();
        turnBad();
        turnBadWithJob();
        mend();
        run();
        runSaves();
        set();
        setDuringJob();
        undo();
        undoOfEachAction();
        undoForgets();
        Check.finish("ActionTest");
    }

    private static void add() {
        StripeTasks x = new StripeTasks();
        for (int t = 0; t < 6; t++) {
            Check.same("P11 add", x.add(t + 1, t == 5 ? 996 : t), t);
        }
        Check.same("P11 the tasks", x.about(0), 6);
        for (int t = 0; t < 6; t++) {
            Check.same("P11 width", x.task(t, 0), t + 1);
            Check.same("P11 value", x.task(t, 1), t == 5 ? 996 : t);
            Check.same("P11 saved value", x.task(t, 2), t == 5 ? 996 : t);
            Check.same("P11 works", x.task(t, 3), 0);
            Check.same("P11 off", x.task(t, 4), 0);
            Check.same("P11 no stripe", x.task(t, 5), -1);
        }
        for (int n : FAR) {
            Check.noArgument("P11 width " + n, StripeTasks::new, y -> y.add(n, 0));
            Check.noArgument("P11 value " + n, StripeTasks::new, y -> y.add(1, n));
        }
        Check.noArgument("P11 width 0", StripeTasks::new, y -> y.add(0, 0));
        Check.noArgument("P11 width 7", StripeTasks::new, y -> y.add(7, 0));
        Check.noArgument("P11 value 997", StripeTasks::new, y -> y.add(1, 997));
        Supplier<StripeTasks> full = () -> Check.loaded("At1000t1000t1000t1000t1000t1000");
        Check.noState("P11 a seventh", full, y -> y.add(1, 0));
        Check.noArgument("P11 a seventh of width 0", full, y -> y.add(0, 0));
        Check.noArgument("P11 a seventh of value 997", full, y -> y.add(1, 997));
    }

    private static void bringLoads() {
        StripeTasks x = Check.loaded("At3100t2200");
        Check.same("P12 a loading", x.bring(0, 9), 9);
        Check.status(x, "P12 loaded", 0, 1, 9);
        Check.same("P12 no works while loading", x.run(8), 0);
        Check.status(x, "P12 still loaded", 0, 1, 9);
        Check.same("P12 the last tick works", x.run(1), 1);
        Check.status(x, "P12 running", 0, 2, 9);
        x.set(0, 1);
        Check.same("P12 a loading of 1 tick a stripe", x.bring(1, 0), 2);
        x.run(2);
        Check.status(x, "P12 the second one", 1, 2, 0);
    }

    private static void bringMoves() {
        StripeTasks x = Check.loaded("At2200l003w06");
        Check.same("P12 a move", x.bring(0, 5), 8);
        Check.status(x, "P12 moving, still running", 0, 2, 3);
        Check.same("P12 works while the new ones are loaded", x.run(5), 5);
        Check.status(x, "P12 still moving", 0, 2, 3);
        Check.same("P12 rests at the handing over", x.run(1), 0);
        Check.status(x, "P12 handed over takes the old ones", 0, 3, 3);
        Check.same("P12 still rests", x.run(1), 0);
        Check.status(x, "P12 still handed over", 0, 3, 3);
        Check.same("P12 goes on at the new ones", x.run(1), 1);
        Check.status(x, "P12 moved", 0, 2, 5);
        Check.same("P12 left", x.stripe(4, 0), -1);
        x.set(1, 0);
        Check.same("P12 a move without a handing over", x.bring(0, 1), 6);
        Check.same("P12 rests no tick", x.run(6), 6);
        Check.status(x, "P12 moved at once", 0, 2, 1);
        Check.same("P12 works kept", x.task(0, 3), 13);
        Check.same("P12 value kept", x.task(0, 1), Check.valueAfter(2, 200, 13));
    }

    private static void bringOntoOwn() {
        StripeTasks x = Check.loaded("At2200l003w06");
        Check.same("P12 a move onto an own stripe", x.bring(0, 4), 8);
        Check.status(x, "P12 handed over at once", 0, 3, 3);
        Check.same("P12 rests all the time", x.run(7), 0);
        Check.status(x, "P12 takes the old ones", 0, 3, 3);
        Check.same("P12 works at the end", x.run(1), 1);
        Check.status(x, "P12 takes the new ones", 0, 2, 4);
        Check.same("P12 left", x.stripe(3, 0), -1);
        Check.same("P12 to where it is", x.bring(0, 4), 8);
        Check.status(x, "P12 that is a move", 0, 3, 4);
        Check.same("P12 to each of its stripes", x.stripe(5, 1), 0);
        Check.same("P12 works behind it", x.run(8), 1);
        x.set(1, 0);
        Check.same("P12 back by one, without handing over", x.bring(0, 3), 6);
        Check.status(x, "P12 handed over nevertheless", 0, 3, 4);
        Check.same("P12 rests until then", x.run(6), 1);
        Check.same("P12 side by side is not its own", x.bring(0, 1), 6);
        Check.status(x, "P12 so it goes on", 0, 2, 3);
    }

    private static void bringRefused() {
        Supplier<StripeTasks> idle = () -> Check.loaded("At3100t2200t6300l003w09b09");
        Supplier<StripeTasks> busy = () -> Check.loaded("At3100t2200t6300l003w09b09l107");
        for (int n : FAR) {
            Check.noIndex("P12 bring task " + n, idle, y -> y.bring(n, 0));
            Check.noIndex("P12 bring to " + n, idle, y -> y.bring(0, n));
            Check.noIndex("P12 bring task with a job " + n, busy, y -> y.bring(n, 0));
            Check.noIndex("P12 bring with a job to " + n, busy, y -> y.bring(0, n));
        }
        Check.noIndex("P12 bring(3, 0)", idle, y -> y.bring(3, 0));
        Check.noIndex("P12 bring(1, 12)", idle, y -> y.bring(1, 12));
        Check.noIndex("P12 bring(1, 12) with a job", busy, y -> y.bring(1, 12));
        Check.noState("P12 the loader has a job", busy, y -> y.bring(1, 0));
        Check.noState("P12 the loader has its job", busy, y -> y.bring(1, 7));
        Check.noState("P12 beyond the stripe 11", idle, y -> y.bring(1, 11));
        Check.noState("P12 far beyond the stripe 11", idle, y -> y.bring(2, 7));
        Check.noState("P12 a bad one at the begin", idle, y -> y.bring(1, 9));
        Check.noState("P12 a bad one at the end", idle, y -> y.bring(1, 8));
        Check.noState("P12 a bad one between", idle, y -> y.bring(0, 8));
        Check.noState("P12 a taken one at the begin", idle, y -> y.bring(1, 5));
        Check.noState("P12 a taken one at the end", idle, y -> y.bring(1, 2));
        Check.noState("P12 taken ones between", idle, y -> y.bring(2, 1));
        StripeTasks x = idle.get();
        Check.same("P12 between taken and bad ones", x.bring(1, 6), 6);
        x.undo();
        Check.same("P12 between a bad one and the end", x.bring(1, 10), 6);
        x.undo();
        Check.same("P12 at the begin", x.bring(1, 1), 6);
        Check.same("P12 a wide one", Check.loaded("At6000").bring(0, 6), 18);
    }

    private static void stop() {
        StripeTasks x = Check.loaded("At3100t2200l003w13l108");
        int value = Check.valueAfter(3, 100, 5);
        Check.same("P13 stop", x.stop(0), value);
        Check.status(x, "P13 stopped", 0, 0, -1);
        Check.same("P13 its value stays", x.task(0, 1), value);
        Check.same("P13 its value is saved", x.task(0, 2), value);
        Check.same("P13 its works stay", x.task(0, 3), 5);
        Check.same("P13 its stripes are free", x.about(3), 10);
        Check.same("P13 the other's job goes on", x.job(2), 6);
        x.run(20);
        Check.same("P13 it does not work", x.task(0, 3), 5);
        Check.same("P13 no job is lost", x.about(7), 0);
        Check.same("P13 brought again", x.bring(0, 0), 9);
        x.run(9);
        Check.same("P13 goes on with its value", x.task(0, 1), Check.valueAfter(3, 100, 6));

        Supplier<StripeTasks> some = () -> Check.loaded("At3100t2200l003w13l108");
        for (int n : FAR) {
            Check.noIndex("P13 stop(" + n + ")", some, y -> y.stop(n));
        }
        Check.noIndex("P13 stop(2)", some, y -> y.stop(2));
        Check.noState("P13 stop of a loaded one", some, y -> y.stop(1));
        Check.noState("P13 stop of one that is off", () -> Check.loaded("At3100"), y -> y.stop(0));
        Check.noState("P13 stop of a moving one", () -> Check.loaded("At1100l000w03l005"), y -> y.stop(0));
        Check.noState("P13 stop of a handed over one", () -> Check.loaded("At1100l000w03l005w03"), y -> y.stop(0));
    }

    private static void turnBad() {
        StripeTasks x = Check.loaded("At3100t1200l003w13");
        Check.same("P14 a free one", x.turnBad(2), -1);
        Check.same("P14 is bad", x.stripe(2, 2), 1);
        Check.same("P14 again", x.turnBad(2), -1);
        Check.same("P14 is still bad", x.stripe(2, 2), 1);
        Check.same("P14 the task that takes it", x.turnBad(5), 0);
        Check.status(x, "P14 it is off", 0, 0, -1);
        Check.same("P14 has its saved value", x.task(0, 1), Check.valueAfter(3, 100, 2));
        Check.same("P14 keeps the saved value", x.task(0, 2), Check.valueAfter(3, 100, 2));
        Check.same("P14 its works stay", x.task(0, 3), 5);
        Check.same("P14 all works stay", x.about(8), 5);
        Check.same("P14 its other stripes are free", x.about(3), 10);
        Check.same("P14 no job, none lost", x.about(7), 0);
        Check.same("P14 again, where it was", x.turnBad(5), -1);
        x.bring(1, 4);
        x.run(3);
        Check.same("P14 the second task", x.turnBad(4), 1);
        for (int n : FAR) {
            Check.noIndex("P14 turnBad(" + n + ")", () -> Check.loaded("At3100l003w13"), y -> y.turnBad(n));
        }
        Check.noIndex("P14 turnBad(12)", () -> Check.loaded("At3100l003w13"), y -> y.turnBad(12));
    }

    private static void turnBadWithJob() {
        StripeTasks x = Check.loaded("At3100t1200l003w11l107");
        Check.same("P14 another task's stripe", x.turnBad(3), 0);
        Check.same("P14 the other's job stays", x.job(0), 1);
        Check.same("P14 a loaded task", x.turnBad(7), 1);
        Check.status(x, "P14 loaded is off", 1, 0, -1);
        Check.same("P14 its job is gone", x.idleIn(), 0);
        Check.same("P14 and lost", x.about(7), 1);

        StripeTasks moving = Check.loaded("At2100l003w12l008");
        Check.same("P14 the new stripe of a running task", moving.turnBad(9), -1);
        Check.status(moving, "P14 it goes on", 0, 2, 3);
        Check.same("P14 just its job is gone", moving.job(0), -1);
        Check.same("P14 and is lost", moving.about(7), 1);
        Check.same("P14 not brought to it any more", moving.stripe(8, 1), -1);
        Check.same("P14 it works on", moving.run(9), 9);

        StripeTasks old = Check.loaded("At2100l003w12l008");
        Check.same("P14 the old stripe of a running task", old.turnBad(4), 0);
        Check.status(old, "P14 it is off", 0, 0, -1);
        Check.same("P14 its move is gone", old.job(2), -1);
        Check.same("P14 and lost", old.about(7), 1);
        Check.same("P14 the rest is free", old.about(3), 11);

        handedOver("P14 the new stripe of a handed over task", "At2100l003w12l008w06", 8);
        handedOver("P14 the old stripe of a handed over task", "At2100l003w12l008w06", 3);
        handedOver("P14 a new stripe of one that moves onto its own", "At2100l003w12l004", 5);
        handedOver("P14 an old stripe of one that moves onto its own", "At2100l003w12l004", 3);
        handedOver("P14 an old and new stripe", "At2100l003w12l004", 4);
    }

    private static void handedOver(String what, String text, int s) {
        StripeTasks x = Check.loaded(text);
        Check.same(what, x.turnBad(s), 0);
        Check.status(x, what, 0, 0, -1);
        Check.same(what + ": saved value", x.task(0, 1), Check.valueAfter(2, 100, 5));
        Check.same(what + ": job gone", x.job(0), -1);
        Check.same(what + ": job lost", x.about(7), 1);
        Check.same(what + ": jobs done", x.about(6), 1);
    }

    private static void mend() {
        StripeTasks x = Check.loaded("At3100l003w13b00b11");
        Check.same("P15 mend a bad one", x.mend(0), 1);
        Check.same("P15 it is good", x.stripe(0, 2), 0);
        Check.same("P15 the other stays bad", x.stripe(11, 2), 1);
        Check.same("P15 mend a good one", x.mend(0), 0);
        Check.same("P15 mend a taken one", x.mend(4), 0);
        Check.same("P15 it stays taken", x.stripe(4, 0), 0);
        Check.same("P15 mend the last", x.mend(11), 1);
        Check.same("P15 none is bad", x.about(5), 0);
        x.turnBad(4);
        x.mend(4);
        Check.status(x, "P15 a mended stripe brings no task back", 0, 0, -1);
        for (int n : FAR) {
            Check.noIndex("P15 mend(" + n + ")", () -> Check.loaded("Ab00b11"), y -> y.mend(n));
        }
        Check.noIndex("P15 mend(12)", () -> Check.loaded("Ab00b11"), y -> y.mend(12));
    }

    private static void run() {
        StripeTasks x = new StripeTasks();
        Check.same("P16 run without tasks", x.run(60), 0);
        Check.same("P16 the ticks", x.about(1), 60);
        Check.same("P16 run(1)", x.run(1), 0);
        Check.same("P16 one tick more", x.about(1), 61);
        StripeTasks two = Check.loaded("At1996t6000l000w03l102w18");
        Check.same("P16 works of both", two.about(8), 20);
        Check.same("P16 run with two", two.run(5), 10);
        Check.same("P16 works of the first", two.task(0, 3), 24);
        Check.same("P16 works of the second", two.task(1, 3), 6);
        Check.same("P16 value of the first", two.task(0, 1), Check.valueAfter(1, 996, 24));
        Check.same("P16 value of the second", two.task(1, 1), Check.valueAfter(6, 0, 6));
        StripeTasks one = Check.loaded("At1996l000w03");
        Check.same("P16 31 times 996, 7 and 1, its rest", one.task(0, 1), (31 * 996 + 8) % 997);
        for (int n : FAR) {
            Check.noArgument("P16 run(" + n + ")", () -> Check.loaded("At1996l000w03"), y -> y.run(n));
        }
        Check.noArgument("P16 run(0)", () -> Check.loaded("At1996l000w03"), y -> y.run(0));
        Check.noArgument("P16 run(61)", () -> Check.loaded("At1996l000w03"), y -> y.run(61));
    }

    private static void runSaves() {
        StripeTasks x = Check.loaded("At1005l000w09");
        Check.same("P16 not saved behind 9 ticks", x.task(0, 2), 5);
        x.run(1);
        Check.same("P16 saved in the tenth, behind its work", x.task(0, 2), Check.valueAfter(1, 5, 8));
        x.run(9);
        Check.same("P16 not saved behind 19", x.task(0, 2), Check.valueAfter(1, 5, 8));
        x.bring(0, 0);
        x.run(1);
        Check.same("P16 handed over is not saved", x.task(0, 2), Check.valueAfter(1, 5, 8));
        x.set(2, 1);
        x.run(5);
        Check.same("P16 saved in each tick, when it runs", x.task(0, 2), Check.valueAfter(1, 5, 19));
        x.set(2, 99);
        x.run(60);
        x.run(13);
        Check.same("P16 not saved behind 98", x.task(0, 2), Check.valueAfter(1, 5, 19));
        x.run(1);
        Check.same("P16 saved in the ninety-ninth", x.task(0, 2), x.task(0, 1));
        StripeTasks two = Check.loaded("At1005t2006l000w03l101w06w01");
        Check.same("P16 the first is saved", two.task(0, 2), Check.valueAfter(1, 5, 8));
        Check.same("P16 the second is saved", two.task(1, 2), Check.valueAfter(2, 6, 2));
    }

    private static void set() {
        StripeTasks x = new StripeTasks();
        Check.same("P17 set(0, 1)", x.set(0, 1), 3);
        Check.same("P17 set(0, 9)", x.set(0, 9), 1);
        Check.same("P17 set(1, 0)", x.set(1, 0), 2);
        Check.same("P17 set(1, 20)", x.set(1, 20), 0);
        Check.same("P17 set(2, 1)", x.set(2, 1), 10);
        Check.same("P17 set(2, 99)", x.set(2, 99), 1);
        Check.same("P17 set(2, 99) again", x.set(2, 99), 99);
        Check.same("P17 the others stay", x.setting(0), 9);
        Supplier<StripeTasks> some = () -> Check.loaded("At1005l000w09");
        for (int n : FAR) {
            Check.noArgument("P17 set(" + n + ", 5)", some, y -> y.set(n, 5));
            for (int what = 0; what <= 2; what++) {
                int one = what;
                Check.noArgument("P17 set(" + what + ", " + n + ")", some, y -> y.set(one, n));
            }
        }
        Check.noArgument("P17 set(3, 5)", some, y -> y.set(3, 5));
        Check.noArgument("P17 set(0, 0)", some, y -> y.set(0, 0));
        Check.noArgument("P17 set(0, 10)", some, y -> y.set(0, 10));
        Check.noArgument("P17 set(1, 21)", some, y -> y.set(1, 21));
        Check.noArgument("P17 set(2, 0)", some, y -> y.set(2, 0));
        Check.noArgument("P17 set(2, 100)", some, y -> y.set(2, 100));
    }

    private static void setDuringJob() {
        StripeTasks x = Check.loaded("At2200l003w02");
        x.set(0, 9);
        Check.same("P17 a loading keeps its ticks", x.job(2), 4);
        x.run(4);
        x.set(0, 1);
        x.bring(0, 7);
        x.set(1, 5);
        Check.same("P17 a move keeps its ticks", x.job(2), 2);
        Check.same("P17 but the handing over comes as it is then", x.idleIn(), 7);
        x.run(2);
        Check.same("P17 handing over as set", x.job(2), 5);
        x.set(1, 0);
        Check.same("P17 keeps the ticks that it has", x.job(2), 5);
        x.run(5);
        x.set(1, 4);
        Check.same("P17 onto its own", x.bring(0, 8), 6);
        x.set(1, 0);
        Check.same("P17 keeps those of the handing over too", x.job(2), 6);
        x.run(6);
        Check.same("P17 a move at 0", x.bring(0, 1), 2);
        x.set(1, 3);
        x.run(1);
        x.set(1, 0);
        Check.same("P17 done at once", x.run(1), 1);
        Check.status(x, "P17 moved", 0, 2, 1);
    }

    private static void undo() {
        StripeTasks x = new StripeTasks();
        String empty = Check.state(x);
        x.add(1, 0);
        String one = Check.state(x);
        x.bring(0, 3);
        String brought = Check.state(x);
        x.run(7);
        Check.same("P18 undo run", x.undo(), 2);
        Check.sameText("P18 as before run", Check.state(x), brought);
        Check.same("P18 undo bring", x.undo(), 1);
        Check.sameText("P18 as before bring", Check.state(x), one);
        Check.same("P18 undo add", x.undo(), 0);
        Check.sameText("P18 as before add", Check.state(x), empty);
        Check.noState("P18 no more", StripeTasks::new, StripeTasks::undo);
        Check.sameText("P18 none left", Check.answer(x, StripeTasks::undo), "IllegalStateException");
        x.add(2, 0);
        x.add(3, 0);
        x.undo();
        x.add(4, 0);
        Check.same("P18 undo is no action", x.undo(), 1);
        Check.same("P18 the first is still there", x.task(0, 0), 2);
        Check.same("P18 alone", x.about(0), 1);
        x.append('A');
        x.undo();
        Check.same("P18 the text is not taken back", x.clearText(), 1);
        x.add(1, 5);
        x.save(0);
        x.undo();
        Check.same("P18 slots are not taken back", x.restore(0) + x.about(0), 1);
    }

    private static void takenBack(String what, String text, Check.Call call) {
        StripeTasks x = Check.loaded(text);
        String before = Check.state(x);
        call.on(x);
        Check.same("P18 undo " + what, x.undo(), 0);
        Check.sameText("P18 as before " + what, Check.state(x), before);
    }

    /** Also actions by which nothing becomes different. */
    private static void undoOfEachAction() {
        String text = "At2200t1000l003w08b08";
        takenBack("add", text, y -> y.add(3, 3));
        takenBack("bring", text, y -> y.bring(1, 11));
        takenBack("a move", text, y -> y.bring(0, 0));
        takenBack("a move onto its own", text, y -> y.bring(0, 4));
        takenBack("stop", text, y -> y.stop(0));
        takenBack("turnBad", text, y -> y.turnBad(0));
        takenBack("turnBad of a taken one", text, y -> y.turnBad(4));
        takenBack("turnBad of a bad one", text, y -> y.turnBad(8));
        takenBack("mend", text, y -> y.mend(8));
        takenBack("mend of a good one", text, y -> y.mend(7));
        takenBack("run", text, y -> y.run(60));
        takenBack("set", text, y -> y.set(2, 5));
        takenBack("set to the same", text, y -> y.set(2, 10));
        takenBack("the end of a job", "At2200l003w05", y -> y.run(1));
        takenBack("a lost job", "At2200l003w05", y -> y.turnBad(3));
        StripeTasks x = Check.loaded(text);
        Check.same("P18 lost before", x.lost(3), 3);
        x.run(2);
        x.undo();
        Check.same("P18 lost as before", x.lost(3), 3);
    }

    private static void undoForgets() {
        StripeTasks x = new StripeTasks();
        for (int i = 1; i <= 20; i++) {
            x.run(1);
        }
        for (int left = 13; left >= 0; left--) {
            Check.same("P18 fourteen are remembered", x.undo(), left);
            Check.same("P18 back to", x.about(1), left + 6);
        }
        Check.sameText("P18 the older ones are forgotten", Check.answer(x, StripeTasks::undo), "IllegalStateException");
        for (int i = 0; i < 9; i++) {
            x.run(2);
        }
        Check.same("P18 remembers again", x.undo(), 8);
        Check.same("P18 the last", x.about(1), 22);
    }
}
