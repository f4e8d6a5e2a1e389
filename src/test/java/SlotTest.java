import java.util.function.Supplier;

/** Promises 26 and 27: save, restore. */
final class SlotTest {
    public static void main(String[] args) {
        save();
        restore();
        restoreForgets();
        loadEmptiesSlots();
        restoreEverything();
        wrongSlots();
        Check.finish("SlotTest");
    }

    private static void save() {
        StripeTasks x = Check.loaded("At3100l003w13");
        Check.same("P26 save(0)", x.save(0), 13);
        x.run(4);
        Check.same("P26 save(1)", x.save(1), 17);
        Check.same("P26 save(1) again", x.save(1), 17);
        Check.same("P26 save changes no state", x.about(1), 17);
        Check.same("P26 save is no action", x.undo(), 0);
        x.run(9);
        Check.same("P26 over what is saved", x.save(0), 22);
        x.run(1);
        Check.same("P26 the last one counts", x.restore(0), 22);
        Check.same("P26 a new object", new StripeTasks().save(0), 0);
    }

    private static void restore() {
        StripeTasks x = Check.loaded("At3100l003w13l008");
        String early = Check.state(x);
        x.save(0);
        x.run(20);
        x.turnBad(9);
        String late = Check.state(x);
        x.save(1);
        x.add(1, 1);
        x.set(0, 9);
        Check.same("P27 restore(0)", x.restore(0), 13);
        Check.sameText("P27 what was saved in 0", Check.state(x), early);
        x.run(30);
        Check.same("P27 the slot keeps it", x.restore(0), 13);
        Check.sameText("P27 as it was saved", Check.state(x), early);
        Check.same("P27 restore(1)", x.restore(1), 33);
        Check.sameText("P27 what was saved in 1", Check.state(x), late);
        x.append('A');
        x.restore(0);
        Check.same("P27 restore keeps the text", x.clearText(), "At3100l003w13l008".length() + 1);
    }

    private static void restoreForgets() {
        StripeTasks x = Check.loaded("At3100");
        x.run(1);
        x.save(0);
        x.run(1);
        x.restore(0);
        Check.sameText("P27 forgets all remembered states", Check.answer(x, StripeTasks::undo), "IllegalStateException");
        x.run(2);
        Check.same("P27 is no action", x.undo(), 0);
        Check.same("P27 back to what was restored", x.about(1), 1);
    }

    private static void loadEmptiesSlots() {
        Supplier<StripeTasks> reloaded = () -> {
            StripeTasks x = Check.loaded("At3100");
            x.save(0);
            x.save(1);
            x.load();
            return x;
        };
        Check.noState("P27 restore(0) since load", reloaded, y -> y.restore(0));
        Check.noState("P27 restore(1) since load", reloaded, y -> y.restore(1));
        StripeTasks x = reloaded.get();
        x.save(1);
        Check.sameText("P27 the other is still empty", Check.answer(x, y -> y.restore(0)), "IllegalStateException");
        Check.same("P27 the one is not", x.restore(1), 0);
    }

    /** What can't be told at once comes back, too: works since saved, ticks, settings, the job. */
    private static void restoreEverything() {
        StripeTasks x = Check.loaded("At3100t1000l003w13l108w01");
        x.set(1, 4);
        x.set(2, 3);
        x.save(0);
        StripeTasks y = Check.loaded("At3100t1000l003w13l108w01");
        y.set(1, 4);
        y.set(2, 3);
        x.run(9);
        x.turnBad(4);
        x.set(1, 1);
        x.set(2, 2);
        x.restore(0);
        Check.sameText("P27 all that was saved", Check.state(x), Check.state(y));
        for (int ticks : new int[] {1, 2, 3, 11}) {
            x.run(ticks);
            y.run(ticks);
            Check.sameText("P27 goes on in the same way", Check.state(x), Check.state(y));
        }
    }

    private static void wrongSlots() {
        Supplier<StripeTasks> some = () -> {
            StripeTasks x = Check.loaded("At3100l003w13");
            x.save(0);
            x.run(3);
            return x;
        };
        for (int n : new int[] {-1, 2, Integer.MIN_VALUE, Integer.MAX_VALUE}) {
            Check.noIndex("P26 save(" + n + ")", some, y -> y.save(n));
            Check.noIndex("P27 restore(" + n + ")", some, y -> y.restore(n));
        }
        Check.noState("P27 nothing saved in 1", some, y -> y.restore(1));
    }
}
