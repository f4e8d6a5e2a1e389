/** How a program uses StripeTasks. Each line that shows an answer tells behind it what that answer is. */
final class Example {
    private Example() {
    }

    public static void main(String[] args) {
        StripeTasks array = new StripeTasks();

        // actions: two tasks, of the widths 3 and 2; values are saved every 15 ticks from now on
        int wide = array.add(3, 100);
        int narrow = array.add(2, 200);
        show(array.set(2, 15));             // 10: the setting before
        show(array.bring(wide, 1));         // 9: the ticks until it is loaded onto the stripes 1 to 3
        show(array.run(12));                // 4: it works in the last of these 9 ticks, and in the 3 behind them
        show(array.bring(wide, 6));         // 11: a move, 9 ticks to load 6 to 8 and 2 for the handing over
        show(array.run(10));                // 8: it goes on until it is handed over in the ninth, and rests then

        // what there is
        show(array.about(1));               // 22: the ticks so far
        show(array.about(3));               // 6: the stripes that are free
        show(array.task(wide, 4));          // 3: it is handed over
        show(array.task(wide, 5));          // 1: it still takes the stripes from 1 on
        show(array.stripe(7, 0));           // -1: no task takes the stripe 7 (StripeTasks.NONE)
        show(array.stripe(7, 1));           // 0: but the task 0 is brought to it
        show(array.job(2));                 // 1: the ticks that the loader still needs
        show(array.setting(0));             // 3: the ticks for a stripe

        // finding, and what would be: nothing changes by these
        show(array.bestGap(2));             // 4: the gap of 4 and 5 is the shortest one with 2 stripes
        show(array.window(5, 0));           // 0: of 5 stripes, 0 to 4 are made free most easily
        show(array.window(5, 1));           // 3: the width of the task that is in the way there
        show(array.idleIn());               // 1: the ticks until the loader is idle
        show(array.coming(wide, 20, 2));    // 20: how often the task 0 works in the next 20 ticks
        show(array.lost(7));                // 5: the works that it loses if the stripe 7 turns bad

        // what can't be done throws an exception, and changes nothing
        try {
            array.bring(narrow, 4);
        } catch (IllegalStateException e) {
            show("refused");                // refused: the loader has a job
        }

        // bad stripes, and undo
        show(array.turnBad(7));             // 0: the task that is off by that
        show(array.task(wide, 4));          // 0: it is off
        show(array.mend(7));                // 1: it was bad
        show(array.undo());                 // 8: the states that are still remembered
        show(array.undo());                 // 7: the stripe is good, and the task handed over, as before
        show(array.run(1));                 // 1: it is handed over no more, and works at 6 to 8
        show(array.stop(wide));             // 332: its value, which is saved by that

        // scripts and simulations, on a copy: run(1), and whether the task 1 is off
        show(array.runScript(2, 2000161000L));  // -1: all of its commands succeed
        show(array.runScript(2, 2000161002L));  // 1: the second one fails, as the task 1 does not run
        show(array.simulate(4, 20));        // 10044: behind 20 turns 1 task runs, and tasks worked 44 times in them

        // save slots
        show(array.save(0));                // 23: the ticks so far
        show(array.run(60));                // 0: no task runs
        show(array.restore(0));             // 23: the ticks so far, as saved

        // an array as a text: tasks of the widths 3 and 2, the first one is loaded onto 1 to 3, and 12 ticks go by
        for (char c : "At3100t2200l001w12".toCharArray()) {
            array.append(c);
        }
        show(array.errorPosition());        // -1: there is no error in it
        show(array.load());                 // 0: no command is left out
        show(array.task(wide, 3));          // 4: how often the task 0 has worked
        show(array.clearText());            // 18: the length of the text
    }

    private static void show(int answer) {
        System.out.println(answer);
    }

    private static void show(String words) {
        System.out.println(words);
    }
}
