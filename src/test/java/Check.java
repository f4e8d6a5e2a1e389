import java.util.function.Supplier;

/** What the tests share: comparing answers and exceptions, and telling whether a call changed anything. */
final class Check {
    interface Call {
        int on(StripeTasks x);
    }

    interface CallWith {
        int on(StripeTasks x, int n);
    }

    private static int wrong = 0;

    private Check() {
    }

    static void same(String what, long got, long due) {
        if (got != due) {
            fail(what + " answered " + got + ", due is " + due);
        }
    }

    /** Of long texts, the first line that differs is told. */
    static void sameText(String what, String got, String due) {
        if (got.equals(due)) {
            return;
        }
        String[] gotLines = got.split("\n");
        String[] dueLines = due.split("\n");
        int line = 0;
        while (line < gotLines.length && line < dueLines.length && gotLines[line].equals(dueLines[line])) {
            line++;
        }
        fail(what + " answered " + lineOf(gotLines, line) + ", due is " + lineOf(dueLines, line));
    }

    private static String lineOf(String[] lines, int line) {
        return line < lines.length ? lines[line] : "nothing more";
    }

    static void fail(String message) {
        wrong++;
        System.out.println(message);
    }

    static void finish(String test) {
        System.out.println(test + ": " + (wrong == 0 ? "all answers are as due" : wrong + " answers are not as due"));
        if (wrong != 0) {
            System.exit(1);
        }
    }

    /** The answer of a call as a text, or the plain name of what it throws. */
    static String answer(StripeTasks x, Call call) {
        try {
            return Integer.toString(call.on(x));
        } catch (RuntimeException e) {
            return e.getClass().getSimpleName();
        }
    }

    /** The call throws just that, and leaves the object as one on which it was not made. */
    static void refuses(String what, Class<? extends Exception> due, Supplier<StripeTasks> make, Call call) {
        sameText(what, answer(make.get(), call), due.getSimpleName());
        changesNothing(what, make, call);
    }

    /** Whatever the call answers or throws, behind it the object is as one on which it was not made. */
    static void changesNothing(String what, Supplier<StripeTasks> make, Call call) {
        Supplier<StripeTasks> called = () -> {
            StripeTasks x = make.get();
            answer(x, call);
            return x;
        };
        sameText(what + " changes nothing:", everything(called), everything(make));
    }

    static void noIndex(String what, Supplier<StripeTasks> make, Call call) {
        refuses(what, IndexOutOfBoundsException.class, make, call);
    }

    static void noArgument(String what, Supplier<StripeTasks> make, Call call) {
        refuses(what, IllegalArgumentException.class, make, call);
    }

    static void noState(String what, Supplier<StripeTasks> make, Call call) {
        refuses(what, IllegalStateException.class, make, call);
    }

    /** The call answers, and leaves the object as one on which it was not made. */
    static void onlyTells(String what, Supplier<StripeTasks> make, Call call, int due) {
        sameText(what, answer(make.get(), call), Integer.toString(due));
        changesNothing(what, make, call);
    }

    /**
     * A number that a call takes: at both ends of its range the call answers what is due, just below, just above and
     * far outside it throws, and changes nothing by that.
     */
    static void range(String what, Class<? extends Exception> outside, Supplier<StripeTasks> make, CallWith call,
            int least, int dueAtLeast, int most, int dueAtMost) {
        same(what + " at " + least, call.on(make.get(), least), dueAtLeast);
        same(what + " at " + most, call.on(make.get(), most), dueAtMost);
        for (int n : new int[] {least - 1, most + 1, Integer.MIN_VALUE, Integer.MAX_VALUE}) {
            refuses(what + " at " + n, outside, make, x -> call.on(x, n));
        }
    }

    /** What an object tells about its present state. */
    static String state(StripeTasks x) {
        StringBuilder told = new StringBuilder("about");
        for (int what = 0; what <= 8; what++) {
            told.append(' ').append(x.about(what));
        }
        told.append(" job");
        for (int what = 0; what <= 2; what++) {
            told.append(' ').append(x.job(what));
        }
        told.append(" settings");
        for (int what = 0; what <= 2; what++) {
            told.append(' ').append(x.setting(what));
        }
        for (int t = 0; t < x.about(0); t++) {
            told.append("\n  task ").append(t).append(':');
            for (int what = 0; what <= 5; what++) {
                told.append(' ').append(x.task(t, what));
            }
        }
        for (int s = 0; s < 12; s++) {
            told.append("\n  stripe ").append(s).append(':');
            for (int what = 0; what <= 2; what++) {
                told.append(' ').append(x.stripe(s, what));
            }
            told.append(" lost ").append(x.lost(s));
        }
        return told.toString();
    }

    /**
     * All that an object holds: its state, the remembered ones, the save slots and the text. Each part is told by an
     * object of its own, as one object is used for 512 calls at most.
     */
    static String everything(Supplier<StripeTasks> make) {
        StringBuilder told = new StringBuilder(state(make.get()));
        String left = "";
        for (int times = 1; times <= 20 && !left.equals("IllegalStateException"); times++) {
            StripeTasks x = make.get();
            for (int i = 0; i < times; i++) {
                left = answer(x, StripeTasks::undo);
            }
            told.append("\nundone ").append(times).append(" times: ").append(left).append('\n').append(state(x));
        }
        for (int slot = 0; slot <= 1; slot++) {
            int number = slot;
            StripeTasks x = make.get();
            told.append("\nslot ").append(answer(x, y -> y.restore(number))).append('\n').append(state(x));
        }
        StripeTasks x = make.get();
        told.append("\nerror position ").append(x.errorPosition());
        told.append("\nloaded ").append(answer(x, StripeTasks::load)).append('\n').append(state(x));
        return told.append("\ntext ").append(x.clearText()).toString();
    }

    /** Whether the task is off (0), loaded (1), running (2) or handed over (3), and where it lies. */
    static void status(StripeTasks x, String what, int t, int status, int first) {
        same(what + ": status", x.task(t, 4), status);
        same(what + ": first stripe", x.task(t, 5), first);
    }

    /** The value of a task that has worked so often. */
    static int valueAfter(int width, int value, int times) {
        int later = value;
        for (int i = 0; i < times; i++) {
            later = (31 * later + 7 * width + 1) % 997;
        }
        return later;
    }

    static Supplier<StripeTasks> withTask(int width) {
        return () -> loaded("At" + width + "000");
    }

    static StripeTasks withText(String text) {
        StripeTasks x = new StripeTasks();
        append(x, text);
        return x;
    }

    static void append(StripeTasks x, String text) {
        for (int i = 0; i < text.length(); i++) {
            x.append(text.charAt(i));
        }
    }

    /** An object in which the text is loaded; no state is remembered then. */
    static StripeTasks loaded(String text) {
        StripeTasks x = withText(text);
        same("load() of " + text, x.load(), 0);
        return x;
    }
}
