import java.util.function.Supplier;

/**
 * All there are of one kind, against Model: every group of five digits as a command of a script, every set of bad
 * stripes, every place of two tasks with every place that one of them is brought to.
 */
final class EveryTest {
    /** Fewer than the 512 that one object is used for. */
    private static final int CALLS = 500;

    private static final String OFF_RUNNING_LOADED = "At3100t2200t1007t6996t2000l003w09l109w06b08l200w02";
    private static final String MOVING = "At3100t2200l003w09b11l006w02";
    private static final String HANDED_OVER = "At3100t2200l003w09l109w06b01l004w05";

    public static void main(String[] args) {
        everyGroup(OFF_RUNNING_LOADED);
        everyGroup(MOVING);
        everyGroup(HANDED_OVER);
        everyGroup("A");
        everySetOfBadStripes("A");
        everySetOfBadStripes("At3100t2200l004w09l100w06");
        everySetOfBadStripes("At3100t2200l004w09l109w06l000");
        everySetOfBadStripes("At2100t2200l004w09l109w06l003");
        everyPlace();
        Check.finish("EveryTest");
    }

    private static Model model(String text) {
        Model model = new Model();
        for (int i = 0; i < text.length(); i++) {
            model.append(text.charAt(i));
        }
        Check.same("the model of " + text, model.load(), 0);
        return model;
    }

    /** "commands with tasks or stripes that do not exist fail, and so does any other group" */
    private static void everyGroup(String text) {
        Model model = model(text);
        int before = text.length() + 1;
        StripeTasks x = Check.loaded(text);
        int calls = before;
        for (int group = 0; group <= 99999; group++) {
            if (calls == CALLS) {
                x = Check.loaded(text);
                calls = before;
            }
            Check.same("P24 runScript(1, " + group + ") in " + text, x.runScript(1, group), model.runScript(1, group));
            calls++;
        }
    }

    private static void everySetOfBadStripes(String text) {
        for (int set = 0; set < 1 << 12; set++) {
            StripeTasks x = Check.loaded(text);
            Model model = model(text);
            String what = " with the bad stripes " + Integer.toBinaryString(set) + " in " + text;
            for (int s = 0; s < 12; s++) {
                if ((set >> s & 1) != 0) {
                    Check.same("P14 turnBad(" + s + ")" + what, x.turnBad(s), model.turnBad(s));
                }
            }
            sameStripes(what, x, model);
            sameFindings(what, x, model);
        }
    }

    private static void sameStripes(String what, StripeTasks x, Model model) {
        for (int asked = 0; asked <= 8; asked++) {
            Check.same("P6 about(" + asked + ")" + what, x.about(asked), model.about(asked));
        }
        for (int asked = 0; asked <= 2; asked++) {
            Check.same("P9 job(" + asked + ")" + what, x.job(asked), model.job(asked));
            for (int s = 0; s < 12; s++) {
                Check.same("P8 stripe(" + s + ", " + asked + ")" + what, x.stripe(s, asked), model.stripe(s, asked));
            }
        }
        for (int t = 0; t < model.about(0); t++) {
            for (int asked = 0; asked <= 5; asked++) {
                Check.same("P7 task(" + t + ", " + asked + ")" + what, x.task(t, asked), model.task(t, asked));
            }
        }
    }

    private static void sameFindings(String what, StripeTasks x, Model model) {
        for (int width = 1; width <= 6; width++) {
            Check.same("P19 bestGap(" + width + ")" + what, x.bestGap(width), model.bestGap(width));
        }
        for (int width = 1; width <= 12; width++) {
            for (int asked = 0; asked <= 1; asked++) {
                Check.same("P20 window(" + width + ", " + asked + ")" + what, x.window(width, asked),
                        model.window(width, asked));
            }
        }
        Check.same("P21 idleIn()" + what, x.idleIn(), model.idleIn());
        for (int s = 0; s < 12; s++) {
            Check.same("P23 lost(" + s + ")" + what, x.lost(s), model.lost(s));
        }
    }

    private static String text(int width, int s, int otherWidth, int otherS) {
        return String.format("At%d100t%d200l0%02dw18l1%02dw18", width, otherWidth, s, otherS);
    }

    /** Two tasks of any widths at any stripes; then each of them is brought to any stripe. */
    private static void everyPlace() {
        for (int width = 1; width <= 6; width++) {
            for (int s = 0; s + width <= 12; s++) {
                for (int otherWidth = 1; s + width + otherWidth <= 12 && otherWidth <= 6; otherWidth++) {
                    for (int otherS = s + width; otherS + otherWidth <= 12; otherS++) {
                        everyMove(text(width, s, otherWidth, otherS));
                    }
                }
            }
        }
    }

    private static void everyMove(String text) {
        Supplier<StripeTasks> make = () -> Check.loaded(text);
        for (int t = 0; t <= 1; t++) {
            StripeTasks x = make.get();
            Model model = model(text);
            for (int s = 0; s < 12; s++) {
                String what = "P12 bring(" + t + ", " + s + ") in " + text;
                int task = t;
                int asked = s;
                String got = Check.answer(x, y -> y.bring(task, asked));
                String due = answerOf(model, task, asked);
                Check.sameText(what, got, due);
                if (!due.endsWith("Exception")) {
                    Check.same(what + ", its status", x.task(t, 4), model.task(t, 4));
                    Check.same(what + ", its ticks", x.job(2), model.job(2));
                    Check.same(what + ", its first stripe", x.task(t, 5), model.task(t, 5));
                    x.undo();
                    model.undo();
                }
            }
        }
    }

    private static String answerOf(Model model, int t, int s) {
        try {
            return Integer.toString(model.bring(t, s));
        } catch (IndexOutOfBoundsException | IllegalStateException e) {
            return e.getClass().getSimpleName();
        }
    }
}
