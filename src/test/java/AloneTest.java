import java.util.ArrayList;
import java.util.List;
import java.util.Map;
import java.util.TreeMap;
import java.util.function.Supplier;

/** What an action changes, and that all beside it stays: the other tasks, the other stripes, the loader, the settings. */
final class AloneTest {
    private static final List<Supplier<StripeTasks>> OBJECTS = List.of(StripeTasks::new, Made::idle, Made::loading,
            Made::moving, Made::handedOver, Made::ontoOwn, Made::full, Made::allBad);

    public static void main(String[] args) {
        for (Supplier<StripeTasks> make : OBJECTS) {
            add(make);
            bring(make);
            stop(make);
            turnBad(make);
            mend(make);
            run(make);
            set(make);
        }
        eachMendedAlone();
        Check.finish("AloneTest");
    }

    /** Each number that an object tells, with a name. */
    private static Map<String, Integer> numbers(StripeTasks x) {
        Map<String, Integer> told = new TreeMap<>();
        for (int what = 0; what <= 8; what++) {
            told.put("about " + what, x.about(what));
        }
        for (int what = 0; what <= 2; what++) {
            told.put("job " + what, x.job(what));
            told.put("setting " + what, x.setting(what));
            for (int s = 0; s < 12; s++) {
                told.put("stripe " + s + ' ' + what, x.stripe(s, what));
            }
        }
        for (int t = 0; t < x.about(0); t++) {
            for (int what = 0; what <= 5; what++) {
                told.put("task " + t + ' ' + what, x.task(t, what));
            }
        }
        for (int s = 0; s < 12; s++) {
            told.put("lost " + s, x.lost(s));
        }
        told.put("idle in", x.idleIn());
        return told;
    }

    /** All numbers that are different behind the call have names that are allowed. */
    private static void changesAlone(String what, Supplier<StripeTasks> make, Check.Call call, String allowed) {
        Map<String, Integer> before = numbers(make.get());
        StripeTasks x = make.get();
        if (Check.answer(x, call).endsWith("Exception")) {
            return;
        }
        List<String> others = new ArrayList<>();
        numbers(x).forEach((name, number) -> {
            if (!number.equals(before.get(name)) && !name.matches(allowed)) {
                others.add(name);
            }
        });
        Check.sameText(what + " changes as well", others.toString(), "[]");
    }

    /** The names of these numbers of the stripes, and what they would lose. */
    private static String stripes(List<Integer> stripes, String numbers) {
        StringBuilder names = new StringBuilder("nothing");
        for (int s : stripes) {
            names.append("|stripe ").append(s).append(' ').append(numbers).append("|lost ").append(s);
        }
        return names.toString();
    }

    /** The stripes that the task takes, and those to which it is brought. */
    private static List<Integer> stripesOf(StripeTasks x, int t) {
        List<Integer> stripes = new ArrayList<>();
        for (int s = 0; s < 12; s++) {
            if (x.stripe(s, 0) == t || x.stripe(s, 1) == t) {
                stripes.add(s);
            }
        }
        return stripes;
    }

    private static void add(Supplier<StripeTasks> make) {
        int next = make.get().about(0);
        changesAlone("add", make, x -> x.add(6, 7), "about 0|task " + next + " .");
    }

    private static void bring(Supplier<StripeTasks> make) {
        int tasks = make.get().about(0);
        for (int t = 0; t < tasks; t++) {
            for (int s = 0; s < 12; s++) {
                int task = t;
                int first = s;
                List<Integer> brought = new ArrayList<>();
                for (int i = s; i < s + make.get().task(t, 0); i++) {
                    brought.add(i);
                }
                changesAlone("bring(" + t + ", " + s + ")", make, x -> x.bring(task, first),
                        "about [234]|job .|idle in|task " + t + " [45]|" + stripes(brought, "[01]"));
            }
        }
    }

    private static void stop(Supplier<StripeTasks> make) {
        int tasks = make.get().about(0);
        for (int t = 0; t < tasks; t++) {
            int task = t;
            changesAlone("stop(" + t + ")", make, x -> x.stop(task),
                    "about [234]|task " + t + " [245]|" + stripes(stripesOf(make.get(), t), "0"));
        }
    }

    private static void turnBad(Supplier<StripeTasks> make) {
        for (int s = 0; s < 12; s++) {
            int asked = s;
            int off = make.get().turnBad(s);
            int mover = make.get().stripe(s, 1);
            boolean lost = mover != -1 || off != -1 && make.get().job(0) == off;
            String allowed = "about [345]|stripe " + s + " 2";
            if (off != -1) {
                allowed += "|about 2|task " + off + " [145]|" + stripes(stripesOf(make.get(), off), "[01]");
            } else if (mover != -1) {
                allowed += '|' + stripes(stripesOf(make.get(), mover), "1");
            }
            changesAlone("turnBad(" + s + ")", make, x -> x.turnBad(asked), lost ? allowed + "|about 7|job .|idle in" : allowed);
        }
    }

    private static void mend(Supplier<StripeTasks> make) {
        for (int s = 0; s < 12; s++) {
            int asked = s;
            boolean bad = make.get().stripe(s, 2) == 1;
            changesAlone("mend(" + s + ")", make, x -> x.mend(asked), bad ? "about [345]|stripe " + s + " 2" : "nothing");
        }
    }

    /** Ticks change no width, no setting, no stripe that is good or bad, nothing of a task that is off, and lose no job. */
    private static void run(Supplier<StripeTasks> make) {
        for (int n : new int[] {1, 7, 60}) {
            StringBuilder allowed = new StringBuilder("about [123468]|job .|idle in|stripe .* [01]|lost .*");
            StripeTasks x = make.get();
            for (int t = 0; t < x.about(0); t++) {
                if (x.task(t, 4) != 0) {
                    allowed.append("|task ").append(t).append(" [12345]");
                }
            }
            boolean idle = x.job(0) == -1;
            String without = idle ? allowed.toString().replace("[123468]", "[18]").replace("|stripe .* [01]", "") : allowed.toString();
            changesAlone("run(" + n + ")", make, y -> y.run(n), without);
        }
    }

    private static void set(Supplier<StripeTasks> make) {
        for (int what = 0; what <= 2; what++) {
            int asked = what;
            boolean handsOverLater = what == 1 && make.get().job(0) != -1 && make.get().task(make.get().job(0), 4) == 2;
            for (int v : new int[] {1, 9}) {
                changesAlone("set(" + what + ", " + v + ")", make, x -> x.set(asked, v),
                        "setting " + what + (handsOverLater ? "|idle in" : ""));
            }
        }
    }

    /** "Mends a stripe: it is good then." */
    private static void eachMendedAlone() {
        for (int mended = 0; mended < 12; mended++) {
            StripeTasks x = Made.allBad();
            Check.same("P15 it was bad", x.mend(mended), 1);
            for (int s = 0; s < 12; s++) {
                Check.same("P15 " + mended + " is mended, " + s, x.stripe(s, 2), s == mended ? 0 : 1);
            }
            Check.same("P15 eleven are bad still", x.about(5), 11);
        }
    }
}
