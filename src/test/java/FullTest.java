import java.util.function.Supplier;

/** Where all is full: 120 characters, 6 tasks, 14 remembered states, all stripes taken, brought to, or bad. */
final class FullTest {
    public static void main(String[] args) {
        hundredAndTwentyCharacters();
        wholeArrayOf120();
        endsTooSoonAt120();
        sixTasks();
        seventhTask();
        fourteenStates();
        fourteenOfEachAction();
        fourteenAndRefused();
        allTaken();
        allTakenMovesOntoOwn();
        allTakenOrBroughtTo();
        allBad();
        lastFreeStripe();
        Check.finish("FullTest");
    }

    // ---- 120 characters

    private static void hundredAndTwentyCharacters() {
        for (int length = 117; length <= 119; length++) {
            Check.same("P2 append to " + length, Check.withText("A".repeat(length)).append('A'), length + 1);
        }
        Supplier<StripeTasks> full = () -> Check.withText("A".repeat(120));
        for (int c : new int[] {0, 'A', 255}) {
            Check.noState("P2 append(" + c + ") to 120", full, x -> x.append(c));
        }
        for (int c : new int[] {-1, 256}) {
            Check.noArgument("P2 append(" + c + ") to 120", full, x -> x.append(c));
        }
        Check.same("P3 clearText of 120", full.get().clearText(), 120);
        StripeTasks x = full.get();
        x.clearText();
        for (int length = 1; length <= 120; length++) {
            Check.same("P2 append behind clearText", x.append('A'), length);
        }
        Check.sameText("P2 append to 120 again", Check.answer(x, y -> y.append('A')), "IllegalStateException");
    }

    private static void wholeArrayOf120() {
        Check.same("P4 errorPosition of 120", Check.withText(Made.fullText()).errorPosition(), -1);
        StripeTasks x = Made.full();
        Check.same("P5 all six tasks are there", x.about(0), 6);
        Check.same("P5 the last w is done", x.about(1), 51);
        Check.same("P5 load keeps a text of 120", x.clearText(), 120);
        // 59 commands of two characters, then 58 of them and one of three
        StripeTasks most = Check.withText("A" + "s0".repeat(59));
        Check.same("P5 all commands are left out", most.load(), 59);
        StripeTasks last = Check.withText("A" + "s0".repeat(58) + "w60");
        Check.same("P5 all but the last are left out", last.load(), 58);
        Check.same("P5 the last one is done", last.about(1), 60);
    }

    private static void endsTooSoonAt120() {
        String[] ends = {"t", "t1", "t10", "t100", "l", "l0", "l00", "b", "b0", "g", "g1", "s", "w", "w6"};
        for (String end : ends) {
            int before = 119 - end.length();
            String commands = "w01".repeat(before / 3);
            String rest = before % 3 == 0 ? "" : before % 3 == 1 ? "s0s0" : "s0";
            String text = "A" + (before % 3 == 1 ? commands.substring(3) : commands) + rest + end;
            Check.same("the length of this text", text.length(), 120);
            Check.same("P4 too soon at 120 behind " + end, Check.withText(text).errorPosition(), 120);
            Check.noState("P5 load of it", () -> Check.withText(text), StripeTasks::load);
        }
        String wrong = "A" + "s0".repeat(59) + "0";
        Check.same("P4 the last of 120 is wrong", Check.withText(wrong).errorPosition(), 119);
    }

    // ---- 6 tasks

    private static void sixTasks() {
        StripeTasks x = Check.loaded("At1000t1000t1000t1000t1000");
        Check.same("P11 the sixth", x.add(6, 996), 5);
        Check.noState("P11 the seventh", Made::full, y -> y.add(1, 0));
        Check.noState("P11 the seventh of width 6", Made::full, y -> y.add(6, 996));
        for (int[] wrong : new int[][] {{0, 0}, {7, 0}, {1, -1}, {1, 997}, {0, 997}}) {
            Check.noArgument("P11 add(" + wrong[0] + ", " + wrong[1] + ") where there are 6", Made::full,
                    y -> y.add(wrong[0], wrong[1]));
        }
        x.undo();
        Check.same("P11 five again", x.about(0), 5);
        Check.same("P11 the sixth again", x.add(2, 8), 5);
        Check.same("P11 with its own width", x.task(5, 0), 2);
        Check.same("P11 with its own value", x.task(5, 1), 8);
    }

    private static void seventhTask() {
        StripeTasks text = Check.withText("At1000t1001t1002t1003t1004t1005t6006t6007");
        Check.same("P5 the seventh and the eighth are left out", text.load(), 2);
        Check.same("P5 the sixth is the last", text.task(5, 1), 5);
        Check.sameText("P5 no task 6", Check.answer(text, y -> y.task(6, 0)), "IndexOutOfBoundsException");
        // 24 is 3 * 8, so the first turn adds a task
        Check.onlyTells("P25 the seventh is left out", Made::full, x -> x.simulate(ScriptTest.seedFor(24), 1), 60000);
    }

    // ---- 14 remembered states

    private static void fourteenStates() {
        for (int actions = 13; actions <= 30; actions++) {
            StripeTasks x = new StripeTasks();
            for (int i = 1; i <= actions; i++) {
                x.run(i);
            }
            int remembered = Math.min(actions, 14);
            for (int left = remembered - 1; left >= 0; left--) {
                Check.same("P18 of " + actions + " actions still remembered", x.undo(), left);
                int done = actions - remembered + left;
                Check.same("P18 of " + actions + " actions still done", x.about(1), done * (done + 1) / 2);
            }
            Check.sameText("P18 none is left of " + actions, Check.answer(x, StripeTasks::undo), "IllegalStateException");
        }
    }

    /** Each action is the fifteenth one once: it is done, and the oldest state is forgotten. */
    private static void fourteenOfEachAction() {
        fifteenth("add", y -> y.add(1, 1));
        fifteenth("bring", y -> y.bring(2, 0));
        fifteenth("stop", y -> y.stop(0));
        fifteenth("turnBad", y -> y.turnBad(3));
        fifteenth("turnBad of a bad one", y -> y.turnBad(8));
        fifteenth("mend", y -> y.mend(8));
        fifteenth("mend of a good one", y -> y.mend(0));
        fifteenth("run", y -> y.run(1));
        fifteenth("set", y -> y.set(0, 9));
        fifteenth("set to the same", y -> y.set(0, 3));
    }

    private static void fifteenth(String what, Check.Call call) {
        StripeTasks x = Made.idle();
        String before = Check.state(x);
        call.on(x);
        Check.same("P18 with " + what + " the oldest is forgotten", x.undo(), 13);
        Check.sameText("P18 as before " + what, Check.state(x), before);
        for (int left = 12; left >= 0; left--) {
            Check.same("P18 the others", x.undo(), left);
        }
        // the oldest one, behind 15 ticks, is forgotten
        Check.same("P18 the second is the oldest then", x.about(1), 16);
        Check.same("P18 with the setting that it had", x.setting(2), 10);
    }

    private static void fourteenAndRefused() {
        StripeTasks x = Made.idle();
        for (int i = 0; i < 20; i++) {
            Check.answer(x, y -> y.run(0));
            Check.answer(x, y -> y.bring(0, 8));
            Check.answer(x, y -> y.stop(2));
        }
        Check.same("P18 refused calls are no actions", x.undo(), 13);
        for (int left = 12; left >= 0; left--) {
            Check.same("P18 the others", x.undo(), left);
        }
        Check.same("P18 the oldest is not forgotten by them", x.about(1), 15);
    }

    // ---- all stripes

    private static void allTaken() {
        Check.onlyTells("P6 no free stripe", Made::full, x -> x.about(3), 0);
        Check.onlyTells("P6 no row", Made::full, x -> x.about(4), 0);
        Check.onlyTells("P6 six run", Made::full, x -> x.about(2), 6);
        for (int width = 1; width <= 6; width++) {
            int asked = width;
            Check.onlyTells("P19 no gap of " + width, Made::full, x -> x.bestGap(asked), -1);
        }
        int[] inTheWay = {0, 2, 2, 4, 4, 6, 6, 8, 8, 10, 10, 12, 12};
        for (int width = 1; width <= 12; width++) {
            int asked = width;
            Check.onlyTells("P20 the first window of " + width, Made::full, x -> x.window(asked, 0), 0);
            Check.onlyTells("P20 in the way of " + width, Made::full, x -> x.window(asked, 1), inTheWay[width]);
        }
        for (int s = 0; s < 12; s++) {
            int asked = s;
            Check.onlyTells("P8 the taker of " + s, Made::full, x -> x.stripe(asked, 0), s / 2);
            Check.onlyTells("P23 lost(" + s + ")", Made::full, x -> x.lost(asked), 1);
        }
    }

    private static void allTakenMovesOntoOwn() {
        for (int t = 0; t < 6; t++) {
            for (int s = 0; s < 12; s++) {
                StripeTasks x = Made.full();
                int task = t;
                int stripe = s;
                Check.sameText("P12 bring(" + t + ", " + s + ") among taken ones", Check.answer(x, y -> y.bring(task, stripe)),
                        s == 2 * t ? "8" : "IllegalStateException");
            }
        }
    }

    private static void allTakenOrBroughtTo() {
        Supplier<StripeTasks> moving = () -> Check.loaded("At6000t1000l000w18l006");
        Check.onlyTells("P6 none is free", moving, x -> x.about(3), 0);
        Check.onlyTells("P6 no row", moving, x -> x.about(4), 0);
        Check.onlyTells("P19 no gap", moving, x -> x.bestGap(1), -1);
        Check.onlyTells("P20 the old ones alone", moving, x -> x.window(6, 0), 0);
        Check.onlyTells("P20 in their way", moving, x -> x.window(6, 1), 6);
        Check.onlyTells("P20 no wider window", moving, x -> x.window(7, 0), -1);
        Check.onlyTells("P20 in the way of no window", moving, x -> x.window(7, 1), -1);
        Supplier<StripeTasks> loading = () -> Check.loaded("At6000t6000l000w18l106");
        Check.onlyTells("P20 a loading is no move", loading, x -> x.window(12, 1), 12);
    }

    private static void allBad() {
        Check.onlyTells("P6 all bad", Made::allBad, x -> x.about(5), 12);
        Check.onlyTells("P6 none is free", Made::allBad, x -> x.about(3), 0);
        Check.onlyTells("P6 no row", Made::allBad, x -> x.about(4), 0);
        for (int width = 1; width <= 12; width++) {
            int asked = width;
            Check.onlyTells("P20 no window of " + width, Made::allBad, x -> x.window(asked, 0), -1);
            Check.onlyTells("P20 in the way of none", Made::allBad, x -> x.window(asked, 1), -1);
        }
        for (int width = 1; width <= 6; width++) {
            int asked = width;
            Check.onlyTells("P19 no gap of " + width, Made::allBad, x -> x.bestGap(asked), -1);
        }
        for (int s = 0; s < 12; s++) {
            int asked = s;
            Check.noState("P12 bring to the bad " + s, Made::allBad, x -> x.bring(0, asked));
            Check.onlyTells("P23 nothing to lose", Made::allBad, x -> x.lost(asked), 0);
        }
    }

    private static void lastFreeStripe() {
        for (int free = 0; free < 12; free++) {
            StripeTasks x = Check.loaded("At1000");
            for (int s = 0; s < 12; s++) {
                if (s != free) {
                    x.turnBad(s);
                }
            }
            Check.same("P6 one is free", x.about(3), 1);
            Check.same("P6 a row of one", x.about(4), 1);
            Check.same("P19 a gap of one", x.bestGap(1), free);
            Check.same("P19 none of two", x.bestGap(2), -1);
            Check.same("P20 a window of one", x.window(1, 0), free);
            Check.same("P20 none of two", x.window(2, 0), -1);
            Check.same("P12 the only place", x.bring(0, free), 3);
            Check.same("P6 none is free then", x.about(3), 0);
            Check.same("P20 the window that a loaded one takes", x.window(1, 1), 1);
        }
    }
}
