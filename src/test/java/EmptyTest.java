import java.util.function.Supplier;

/** Where nothing is there yet: an empty text, no task, an idle loader, nothing remembered, nothing saved. */
final class EmptyTest {
    /** What makes an object like a new one, but for its text: a load, an undo, a restore of what was saved first. */
    private static final Supplier<StripeTasks> NEW = StripeTasks::new;
    private static final Supplier<StripeTasks> LOADED = () -> Check.loaded("A");
    private static final Supplier<StripeTasks> UNDONE = () -> {
        StripeTasks x = new StripeTasks();
        x.add(2, 100);
        x.bring(0, 3);
        x.undo();
        x.undo();
        return x;
    };
    private static final Supplier<StripeTasks> RESTORED = () -> {
        StripeTasks x = new StripeTasks();
        x.save(1);
        x.add(2, 100);
        x.bring(0, 3);
        x.run(9);
        x.restore(1);
        return x;
    };

    public static void main(String[] args) {
        emptyText();
        noTask(NEW);
        noTask(LOADED);
        noTask(UNDONE);
        noTask(RESTORED);
        idleLoader(NEW);
        idleLoader(LOADED);
        idleLoader(UNDONE);
        idleLoader(RESTORED);
        idleLoader(() -> Check.loaded("At1000t2000l000w03"));
        idleLoader(() -> Check.loaded("At1000t2000l000w03l005w05"));
        idleLoader(() -> Check.loaded("At1000t2000l000w03l000w05"));
        idleLoader(() -> Check.loaded("At1000t2000l000b00"));
        nothingRemembered();
        nothingSaved();
        Check.finish("EmptyTest");
    }

    private static void emptyText() {
        Supplier<StripeTasks> cleared = () -> {
            StripeTasks x = Check.loaded("At1000l000w05");
            x.clearText();
            return x;
        };
        Check.onlyTells("P3 clearText of no text", NEW, StripeTasks::clearText, 0);
        Check.onlyTells("P4 errorPosition of no text", NEW, StripeTasks::errorPosition, 0);
        Check.noState("P5 load of no text", NEW, StripeTasks::load);
        Check.same("P2 append to no text", new StripeTasks().append('A'), 1);
        Check.onlyTells("P3 clearText of a text that is emptied", cleared, StripeTasks::clearText, 0);
        Check.onlyTells("P4 errorPosition of a text that is emptied", cleared, StripeTasks::errorPosition, 0);
        Check.noState("P5 load of a text that is emptied", cleared, StripeTasks::load);
        Check.same("P2 append to a text that is emptied", cleared.get().append('A'), 1);
    }

    private static void noTask(Supplier<StripeTasks> make) {
        int[] about = {0, 0, 0, 12, 12, 0, 0, 0, 0};
        for (int what = 0; what <= 8; what++) {
            int asked = what;
            Check.onlyTells("P6 without a task about(" + what + ")", make, x -> x.about(asked), about[what]);
        }
        for (int t : new int[] {-1, 0, 1, 5, 6}) {
            Check.noIndex("P7 without a task task(" + t + ", 0)", make, x -> x.task(t, 0));
            Check.noIndex("P12 without a task bring(" + t + ", 0)", make, x -> x.bring(t, 0));
            Check.noIndex("P13 without a task stop(" + t + ")", make, x -> x.stop(t));
            Check.noIndex("P22 without a task coming(" + t + ", 1, 0)", make, x -> x.coming(t, 1, 0));
        }
        for (int t = 0; t <= 9; t++) {
            int asked = t;
            Check.same("P24 without a task bring(" + t + ", 0)", make.get().runScript(1, 10000 + 1000 * asked), 0);
            Check.same("P24 without a task stop(" + t + ")", make.get().runScript(1, 50000 + 1000 * asked), 0);
            Check.same("P24 without a task is " + t + " off", make.get().runScript(1, 60000 + 1000 * asked), 0);
            Check.same("P24 without a task is " + t + " at 0", make.get().runScript(1, 70000 + 1000 * asked), 0);
            Check.same("P24 without a task is 0 taken by " + t, make.get().runScript(1, 80000 + asked), t == 9 ? -1 : 0);
        }
        for (int s = 0; s <= 11; s++) {
            int asked = s;
            Check.same("P8 without a task taker of " + s, make.get().stripe(asked, 0), -1);
            Check.same("P8 without a task mover to " + s, make.get().stripe(asked, 1), -1);
            Check.same("P23 without a task lost(" + s + ")", make.get().lost(asked), 0);
            Check.same("P14 without a task turnBad(" + s + ")", make.get().turnBad(asked), -1);
        }
        for (int width = 1; width <= 12; width++) {
            int asked = width;
            Check.same("P19 without a task bestGap", make.get().bestGap(1 + asked % 6), 0);
            Check.same("P20 without a task window(" + width + ", 0)", make.get().window(asked, 0), 0);
            Check.same("P20 without a task window(" + width + ", 1)", make.get().window(asked, 1), 0);
        }
        Check.same("P16 without a task run(60)", make.get().run(60), 0);
        Check.same("P25 without a task it may only add", make.get().simulate(3, 1) / 10000, 0);
    }

    private static void idleLoader(Supplier<StripeTasks> make) {
        for (int what = 0; what <= 2; what++) {
            int asked = what;
            Check.onlyTells("P9 idle: job(" + what + ")", make, x -> x.job(asked), -1);
        }
        Check.onlyTells("P21 idle: idleIn()", make, StripeTasks::idleIn, 0);
        Check.onlyTells("P24 idle: behind at most 0", make, x -> x.runScript(1, 90000), -1);
        StripeTasks x = make.get();
        int done = x.about(6);
        x.run(60);
        Check.same("P6 idle: no job is done", x.about(6), done);
        for (int s = 0; s < 12; s++) {
            Check.same("P8 idle: no task is brought to " + s, x.stripe(s, 1), -1);
        }
    }

    private static void nothingRemembered(String what, Supplier<StripeTasks> make) {
        Check.noState("P18 undo() " + what, make, StripeTasks::undo);
        StripeTasks x = make.get();
        String before = Check.state(x);
        x.run(1);
        Check.same("P18 one action " + what, x.undo(), 0);
        Check.sameText("P18 taken back " + what, Check.state(x), before);
        Check.sameText("P18 no more " + what, Check.answer(x, StripeTasks::undo), "IllegalStateException");
    }

    private static void nothingRemembered() {
        nothingRemembered("in a new object", NEW);
        nothingRemembered("behind load", LOADED);
        nothingRemembered("behind load of commands", () -> Check.loaded("At2000t3000l003w13s0b03g03w01"));
        nothingRemembered("when all are taken back", UNDONE);
        nothingRemembered("behind restore", RESTORED);
        nothingRemembered("behind load of a used object", () -> {
            StripeTasks x = Made.full();
            Check.same("one is left out again", x.load(), 1);
            return x;
        });
        nothingRemembered("behind restore of a used object", () -> {
            StripeTasks x = Made.idle();
            x.restore(0);
            return x;
        });
        nothingRemembered("when fourteen are taken back", () -> {
            StripeTasks x = Made.idle();
            for (int left = 13; left >= 0; left--) {
                Check.same("P18 are still remembered", x.undo(), left);
            }
            return x;
        });
    }

    private static void nothingSaved() {
        Supplier<StripeTasks> first = () -> {
            StripeTasks x = new StripeTasks();
            x.save(0);
            return x;
        };
        Supplier<StripeTasks> second = () -> {
            StripeTasks x = new StripeTasks();
            x.save(1);
            return x;
        };
        Supplier<StripeTasks> loadedAgain = () -> {
            StripeTasks x = Made.idle();
            x.load();
            return x;
        };
        for (int slot = 0; slot <= 1; slot++) {
            int asked = slot;
            Check.noState("P27 nothing saved yet in " + slot, NEW, x -> x.restore(asked));
            Check.noState("P27 nothing saved yet, loaded, in " + slot, LOADED, x -> x.restore(asked));
            Check.noState("P27 nothing saved since the last load in " + slot, loadedAgain, x -> x.restore(asked));
        }
        Check.noState("P27 saved in the other, 0", first, x -> x.restore(1));
        Check.noState("P27 saved in the other, 1", second, x -> x.restore(0));
        Check.same("P27 saved in 0", first.get().restore(0), 0);
        Check.same("P27 saved in 1", second.get().restore(1), 0);
        StripeTasks refused = Check.loaded("At1000w07");
        refused.save(0);
        refused.append('x');
        Check.sameText("P5 a load that is refused", Check.answer(refused, StripeTasks::load), "IllegalStateException");
        Check.same("P27 does not empty the slots", refused.restore(0), 7);
    }
}
