import java.util.function.Supplier;

/** What the tests share: comparing answers and exceptions, and telling whether a call changed anything. */
final class Check {
    interface Call {
        int on(StripeTasks x);
    }

    private static int wrong = 0;

    private Check() {
    }

    static void same(String what, long got, long due) {
        if (got != due) {
            fail(what + " answered " + got + ", due is " + due);
        }
    }

    static void sameText(String what, String got, String due) {
        if (!got.equals(due)) {
            fail(what + " answered\n" + got + "\ndue is\n" + due);
        }
    }

    static void fail(String message) {
        wrong++;
        System.out.println(message);
    }

    static void finish(String test) {
        System.out.println(test + ": " + (wrong == 0 ? "all answers are as due" : wrong + " answers are not as due"));
        if (wrong != 0) {
            System.exit(1);
        }
    }

    /** The answer of a call as a text, or the plain name of what it throws. */
    static String answer(StripeTasks x, Call call) {
        try {
            return Integer.toString(call.on(x));
        } catch (RuntimeException e) {
            return e.getClass().getSimpleName();
        }
    }

    /** The call throws just that, and leaves the object as one on which it was not made. */
    static void refuses(String what, Class<? extends Exception> due, Supplier<StripeTasks> make, Call call) {
        StripeTasks tried = make.get();
        sameText(what, answer(tried, call), due.getSimpleName());
        sameText(what + " changes nothing:", everything(tried), everything(make.get()));
    }

    static void noIndex(String what, Supplier<StripeTasks> make, Call call) {
        refuses(what, IndexOutOfBoundsException.class, make, call);
    }

    static void noArgument(String what, Supplier<StripeTasks> make, Call call) {
        refuses(what, IllegalArgumentException.class, make, call);
    }

    static void noState(String what, Supplier<StripeTasks> make, Call call) {
        refuses(what, IllegalStateException.class, make, call);
    }

    /** The call answers, and leaves the object as one on which it was not made. */
    static void onlyTells(String what, Supplier<StripeTasks> make, Call call, int due) {
        StripeTasks asked = make.get();
        sameText(what, answer(asked, call), Integer.toString(due));
        sameText(what + " changes nothing:", everything(asked), everything(make.get()));
    }

    /** What an object tells about its present state. */
    static String state(StripeTasks x) {
        StringBuilder told = new StringBuilder("about");
        for (int what = 0; what <= 8; what++) {
            told.append(' ').append(x.about(what));
        }
        told.append(" job");
        for (int what = 0; what <= 2; what++) {
            told.append(' ').append(x.job(what));
        }
        told.append(" settings");
        for (int what = 0; what <= 2; what++) {
            told.append(' ').append(x.setting(what));
        }
        for (int t = 0; t < x.about(0); t++) {
            told.append("\n  task ").append(t).append(':');
            for (int what = 0; what <= 5; what++) {
                told.append(' ').append(x.task(t, what));
            }
        }
        for (int s = 0; s < 12; s++) {
            told.append("\n  stripe ").append(s).append(':');
            for (int what = 0; what <= 2; what++) {
                told.append(' ').append(x.stripe(s, what));
            }
            told.append(" lost ").append(x.lost(s));
        }
        return told.toString();
    }

    /** All that an object holds: its state, the remembered ones, the save slots and the text. It is used up by that. */
    static String everything(StripeTasks x) {
        StringBuilder told = new StringBuilder(state(x));
        String left = answer(x, StripeTasks::undo);
        while (!left.equals("IllegalStateException")) {
            told.append("\nundone, ").append(left).append(" left\n").append(state(x));
            left = answer(x, StripeTasks::undo);
        }
        for (int slot = 0; slot <= 1; slot++) {
            int number = slot;
            told.append("\nslot ").append(answer(x, y -> y.restore(number))).append('\n').append(state(x));
        }
        told.append("\nerror position ").append(x.errorPosition());
        return told.append("\ntext ").append(x.clearText()).toString();
    }

    /** The value of a task that has worked so often. */
    static int valueAfter(int width, int value, int times) {
        int later = value;
        for (int i = 0; i < times; i++) {
            later = (31 * later + 7 * width + 1) % 997;
        }
        return later;
    }

    static StripeTasks withText(String text) {
        StripeTasks x = new StripeTasks();
        append(x, text);
        return x;
    }

    static void append(StripeTasks x, String text) {
        for (int i = 0; i < text.length(); i++) {
            x.append(text.charAt(i));
        }
    }

    /** An object in which the text is loaded; no state is remembered then. */
    static StripeTasks loaded(String text) {
        StripeTasks x = withText(text);
        same("load() of " + text, x.load(), 0);
        return x;
    }
}
