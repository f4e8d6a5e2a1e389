import java.util.List;
import java.util.function.Supplier;

/** What calls that only tell, that only write into the text, and that only save leave as it is. */
final class TellTest {
    private static final List<Supplier<StripeTasks>> OBJECTS = List.of(StripeTasks::new, Made::idle, Made::loading,
            Made::moving, Made::handedOver, Made::ontoOwn, Made::full, Made::allBad);

    public static void main(String[] args) {
        for (Supplier<StripeTasks> make : OBJECTS) {
            whatThereIs(make);
            finding(make);
            scripts(make);
            textAlone(make);
            slotAlone(make, 0);
            slotAlone(make, 1);
        }
        Check.finish("TellTest");
    }

    /** The section "what there is", and errorPosition. */
    private static void whatThereIs(Supplier<StripeTasks> make) {
        Check.changesNothing("P4 errorPosition", make, StripeTasks::errorPosition);
        Check.changesNothing("P6 to P10", make, x -> {
            for (int what = 0; what <= 8; what++) {
                x.about(what);
            }
            for (int what = 0; what <= 5; what++) {
                for (int t = 0; t < x.about(0); t++) {
                    x.task(t, what);
                }
            }
            for (int what = 0; what <= 2; what++) {
                for (int s = 0; s < 12; s++) {
                    x.stripe(s, what);
                }
                x.job(what);
                x.setting(what);
            }
            return 0;
        });
    }

    /** "these and all following methods up to the save slots change nothing" */
    private static void finding(Supplier<StripeTasks> make) {
        Check.changesNothing("P19", make, x -> x.bestGap(1) + x.bestGap(6));
        Check.changesNothing("P20", make, x -> x.window(1, 0) + x.window(12, 1));
        Check.changesNothing("P21", make, StripeTasks::idleIn);
        int tasks = make.get().about(0);
        for (int t = 0; t < tasks; t++) {
            int asked = t;
            Check.changesNothing("P22", make, x -> x.coming(asked, 1, 0) + x.coming(asked, 7, 1) + x.coming(asked, 200, 2));
        }
        Check.changesNothing("P23", make, x -> {
            for (int s = 0; s < 12; s++) {
                x.lost(s);
            }
            return 0;
        });
    }

    private static void scripts(Supplier<StripeTasks> make) {
        long[] groups = {12000, 11000, 20001, 20060, 30000, 30400, 41100, 40800, 50000, 51000, 60002, 70000, 80009, 90000};
        for (long group : groups) {
            Check.changesNothing("P24 " + group, make, x -> x.runScript(1, group));
            Check.changesNothing("P24 " + group + " among others", make, x -> x.runScript(3, 2000700000L * 100000 + group));
            Check.changesNothing("P24 " + group + " before others", make, x -> x.runScript(2, group * 100000 + 20009));
        }
        for (long seed = 1; seed <= 5; seed++) {
            long spread = seed * 0x9E3779B97F4A7C15L;
            Check.changesNothing("P25 " + spread, make, x -> x.simulate(spread, 1) + x.simulate(spread, 60));
        }
    }

    /** "the state, which consists of everything but the text and the save slots": the text is no part of it. */
    private static void textAlone(Supplier<StripeTasks> make) {
        Supplier<StripeTasks> cleared = () -> {
            StripeTasks x = make.get();
            x.clearText();
            return x;
        };
        Check.changesNothing("P2 and P3, but for the text", cleared, x -> {
            Check.append(x, "At1000w60");
            return x.clearText();
        });
        StripeTasks x = make.get();
        String before = Check.state(x);
        String left = Check.answer(make.get(), StripeTasks::undo);
        x.clearText();
        x.append('A');
        Check.sameText("P3 clearText and append change no state", Check.state(x), before);
        Check.sameText("P18 clearText and append are no actions", Check.answer(x, StripeTasks::undo), left);
        Check.same("P18 undo keeps the text", x.clearText(), 1);
    }

    /** A slot is no part of the state either, and one does not touch the other. */
    private static void slotAlone(Supplier<StripeTasks> make, int slot) {
        String before = Check.state(make.get());
        String text = Integer.toString(make.get().errorPosition());
        StripeTasks x = make.get();
        int ticks = x.about(1);
        Check.same("P26 the ticks so far", x.save(slot), ticks);
        Check.sameText("P26 save changes no state", Check.state(x), before);
        Check.sameText("P26 save keeps the text", Integer.toString(x.errorPosition()), text);
        Check.sameText("P26 save is no action", Check.answer(x, StripeTasks::undo),
                Check.answer(make.get(), StripeTasks::undo));
        x.run(60);
        Check.same("P18 undo keeps the slot", x.restore(slot), ticks);
        Check.sameText("P27 what was saved", Check.state(x), before);
        StripeTasks other = make.get();
        other.save(slot);
        Check.sameText("P26 the other slot stays", Check.answer(other, y -> y.restore(1 - slot)),
                Check.answer(make.get(), y -> y.restore(1 - slot)));
    }
}
