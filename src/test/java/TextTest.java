import java.util.List;
import java.util.function.Supplier;

/** Promises 2 to 5: append, clearText, errorPosition, load. */
final class TextTest {
    public static void main(String[] args) {
        append();
        clearText();
        errorPosition();
        errorAtEachDigit();
        endsTooSoon();
        noBlanks();
        leftToRight();
        load();
        loadMakesNew();
        loadMakesNewOfEach();
        loadLeavesOut();
        loadLeavesOutForEachCause();
        loadOfEveryCommand();
        loadOfBothEnds();
        Check.finish("TextTest");
    }

    private static String many(String part, int times) {
        return part.repeat(times);
    }

    private static void append() {
        StripeTasks x = new StripeTasks();
        Check.same("P2 first append", x.append('A'), 1);
        Check.same("P2 append(0)", x.append(0), 2);
        Check.same("P2 append(255)", x.append(255), 3);
        for (int length = 4; length <= 120; length++) {
            Check.same("P2 append up to 120", x.append('x'), length);
        }
        Check.noArgument("P2 append(-1)", StripeTasks::new, y -> y.append(-1));
        Check.noArgument("P2 append(256)", StripeTasks::new, y -> y.append(256));
        Check.noArgument("P2 append(65 + 65536)", StripeTasks::new, y -> y.append(65 + 65536));
        Check.noArgument("P2 append(least int)", StripeTasks::new, y -> y.append(Integer.MIN_VALUE));
        Check.noArgument("P2 append(greatest int)", StripeTasks::new, y -> y.append(Integer.MAX_VALUE));
        Check.noState("P2 append to 120", () -> Check.withText("A" + many("s", 119)), y -> y.append('A'));
        Check.noArgument("P2 wrong append to 120", () -> Check.withText(many("A", 120)), y -> y.append(256));
    }

    private static void clearText() {
        StripeTasks x = new StripeTasks();
        Check.same("P3 clearText of nothing", x.clearText(), 0);
        Check.append(x, "At1000");
        Check.same("P3 clearText", x.clearText(), 6);
        Check.same("P3 clearText again", x.clearText(), 0);
        Check.same("P3 append behind it", x.append('A'), 1);
        Check.same("P3 the text behind it", x.errorPosition(), -1);
        Check.append(x, many("s", 119));
        Check.same("P3 clearText of 120", x.clearText(), 120);
        Check.same("P3 append behind 120", x.append('A'), 1);
        StripeTasks busy = Check.loaded("At1000l000w05");
        String before = Check.state(busy);
        Check.same("P3 clearText of a loaded one", busy.clearText(), 13);
        Check.sameText("P3 clearText keeps the state", Check.state(busy), before);
    }

    private static void error(String text, int due) {
        Check.onlyTells("P4 errorPosition of \"" + text + "\"", () -> Check.withText(text), StripeTasks::errorPosition, due);
    }

    private static void errorPosition() {
        error("", 0);
        error("A", -1);
        error("a", 0);
        error("B", 0);
        error(" A", 0);
        error("A ", 1);
        error("AA", 1);
        error("At1000", -1);
        error("At1000 ", 6);
        error("At1000t6996l500b11g00s5w60w01", -1);
        error("At", 2);
        error("At1", 3);
        error("At10", 4);
        error("At100", 5);
        error("Al", 2);
        error("Al0", 3);
        error("Al01", 4);
        error("Ab", 2);
        error("Ab1", 3);
        error("Ag0", 3);
        error("As", 2);
        error("Aw", 2);
        error("Aw3", 3);
        error("AT1000", 1);
        error("A\u0000", 1);
        error("A\u00ff", 1);
        error("At1000x1", 6);
        error("At7000s9", 2);
        error("t1000", 0);
        error("A" + many("s0", 59) + "s", 120);
        error("A" + many("s0", 58) + "w60", -1);
    }

    /** Each digit that is allowed at each place, and no other character. */
    private static void errorAtEachDigit() {
        for (char c = 0; c <= 255; c++) {
            int digit = c >= '0' && c <= '9' ? c - '0' : -1;
            place("At", c, digit >= 1 && digit <= 6);
            place("At1", c, digit >= 0);
            place("At19", c, digit >= 0);
            place("At18", c, digit >= 0);
            place("At109", c, digit >= 0);
            place("At198", c, digit >= 0);
            place("At199", c, digit >= 0 && digit <= 6);
            place("Al", c, digit >= 0 && digit <= 5);
            place("Al5", c, digit == 0 || digit == 1);
            place("Al50", c, digit >= 0);
            place("Al51", c, digit == 0 || digit == 1);
            place("As", c, digit >= 0 && digit <= 5);
            place("Aw", c, digit >= 0 && digit <= 6);
            place("Aw0", c, digit >= 1);
            place("Aw5", c, digit >= 0);
            place("Aw6", c, digit == 0);
            for (String letter : new String[] {"b", "g"}) {
                place("A" + letter, c, digit == 0 || digit == 1);
                place("A" + letter + "0", c, digit >= 0);
                place("A" + letter + "1", c, digit == 0 || digit == 1);
            }
            place("A", c, "tlbgsw".indexOf(c) >= 0);
            place("As0", c, "tlbgsw".indexOf(c) >= 0);
            place("", c, c == 'A');
        }
    }

    private static void place(String before, char c, boolean allowed) {
        int got = Check.withText(before + c).errorPosition();
        String what = "P4 whether " + (int) c + " is allowed behind \"" + before + "\"";
        Check.same(what, got == before.length() ? 0 : 1, allowed ? 1 : 0);
    }

    private static final String[] COMMANDS = {"A", "t1000", "t6996", "l000", "l511", "b00", "b11", "g00", "g11", "s0", "s5",
        "w01", "w60"};

    /** "if the text ends too soon, it is the length of the text" */
    private static void endsTooSoon() {
        Check.same("P4 no text ends too soon", new StripeTasks().errorPosition(), 0);
        String text = "";
        for (String command : COMMANDS) {
            for (int part = 1; part < command.length(); part++) {
                String begin = text + command.substring(0, part);
                Check.same("P4 too soon: " + begin, Check.withText(begin).errorPosition(), begin.length());
            }
            text = text + command;
            Check.same("P4 an array: " + text, Check.withText(text).errorPosition(), -1);
        }
    }

    /** "There are no blanks." */
    private static void noBlanks() {
        String text = String.join("", COMMANDS);
        for (int at = 0; at <= text.length(); at++) {
            String blank = text.substring(0, at) + " " + text.substring(at);
            Check.same("P4 a blank at " + at, Check.withText(blank).errorPosition(), at);
        }
    }

    /** "The text is read from left to right." */
    private static void leftToRight() {
        error("At7l6b2g2s6w7", 2);
        error("At1l6b2g2s6w7", 3);
        error("At1000l6b2g2s6w7", 7);
        error("At1000l000b2g2s6w7", 11);
        error("At1000l000b00g2s6w7", 14);
        error("At1000l000b00g00s6w7", 17);
        error("At1000l000b00g00s0w7", 19);
        left("At1000l000w03s0", 0);
        left("As0w03l000t1000", 2);
        left("Aw03l000t1000s0", 2);
        left("At1000b00g00l000", 0);
        left("At1000b00l000g00", 1);
        StripeTasks x = Check.loaded("At1000t2000t3000");
        for (int t = 0; t <= 2; t++) {
            Check.same("P5 the first command adds the first task", x.task(t, 0), t + 1);
        }
        Check.same("P5 run behind bring", Check.loaded("At1000l000w05").about(8), 3);
        Check.same("P5 run before bring", Check.loaded("At1000w05l000").about(8), 0);
    }

    private static void load() {
        Check.noState("P5 load of no text", StripeTasks::new, StripeTasks::load);
        Check.noState("P5 load of a wrong text", () -> Check.withText("At1000l"), StripeTasks::load);
        Check.noState("P5 load of a wrong text in a used object", TextTest::usedWithWrongText, StripeTasks::load);
        StripeTasks x = Check.withText("A");
        Check.same("P5 load of A", x.load(), 0);
        Check.sameText("P5 what A is", Check.state(x), Check.state(new StripeTasks()));
        Check.same("P5 load keeps the text", x.clearText(), 1);
    }

    private static StripeTasks used() {
        StripeTasks x = Check.loaded("At2005l003w09");
        x.set(0, 9);
        x.set(1, 0);
        x.set(2, 1);
        x.save(0);
        x.save(1);
        x.bring(0, 7);
        x.turnBad(11);
        x.turnBad(7);
        x.run(5);
        return x;
    }

    private static StripeTasks usedWithWrongText() {
        StripeTasks x = used();
        Check.append(x, "w00");
        return x;
    }

    private static StripeTasks usedAndLoaded() {
        StripeTasks x = used();
        x.clearText();
        x.append('A');
        Check.same("P5 load again", x.load(), 0);
        return x;
    }

    private static StripeTasks loadedTwice() {
        StripeTasks x = Check.loaded("At2005l003w09");
        x.run(1);
        x.save(1);
        Check.same("P5 the same text again", x.load(), 0);
        return x;
    }

    private static void loadMakesNew() {
        Check.sameText("P5 load makes everything as in a new object, without remembered states and saved ones",
                Check.everything(TextTest::usedAndLoaded), Check.everything(() -> Check.withText("A")));
        Check.sameText("P5 the same text again gives the same", Check.everything(TextTest::loadedTwice),
                Check.everything(() -> Check.loaded("At2005l003w09")));
    }

    private static StripeTasks loadedBehind(Supplier<StripeTasks> make, String text) {
        StripeTasks x = make.get();
        x.clearText();
        Check.append(x, text);
        Check.same("P5 load of " + text + " behind other calls", x.load(), 0);
        return x;
    }

    /** "Makes everything as in a new object, and then does the commands of the text." */
    private static void loadMakesNewOfEach() {
        List<Supplier<StripeTasks>> used = List.of(Made::idle, Made::loading, Made::moving, Made::handedOver, Made::ontoOwn,
                Made::full, Made::allBad, TextTest::used);
        String[] texts = {"A", "At1000", "At6900l003", "At2100t3200l003w08l105w09l100", "At1007l011w05b11"};
        for (Supplier<StripeTasks> make : used) {
            for (String text : texts) {
                String what = "P5 load of " + text + " is as in a new object";
                Check.sameText(what, Check.everything(() -> loadedBehind(make, text)), Check.everything(() -> Check.loaded(text)));
                Check.sameText(what + ", and goes on so", later(loadedBehind(make, text)), later(Check.loaded(text)));
            }
        }
    }

    /** What an object tells behind calls that use all that could have been left behind in it. */
    private static String later(StripeTasks x) {
        x.run(7);
        x.add(2, 5);
        StringBuilder told = new StringBuilder("bring ").append(Check.answer(x, y -> y.bring(y.about(0) - 1, 9)));
        told.append('\n').append(Check.state(x));
        told.append("\nwindow ").append(x.window(12, 0)).append(' ').append(x.window(12, 1));
        told.append("\nworks ").append(x.run(60)).append('\n').append(Check.state(x));
        return told.toString();
    }

    private static void left(String text, int due) {
        Check.same("P5 commands left out of " + text, Check.withText(text).load(), due);
    }

    private static void loadLeavesOut() {
        left("Al000", 1);
        left("As0l511s5", 3);
        left("A" + many("t1000", 6), 0);
        left("A" + many("t1000", 8), 2);
        left("At1000l000l001", 1);
        left("At1000l000s0w03s0s0", 2);
        left("At2000l011", 1);
        left("At2000b03l002g03l002", 1);
        left("Ab00b00g00g00g11", 0);
        StripeTasks x = Check.withText("As0t1007l111l000w04");
        Check.same("P5 left out among others", x.load(), 2);
        Check.same("P5 the others are done", x.task(0, 3), 2);
    }

    /** The last command of the text is left out, and changes nothing. */
    private static void leftOut(String cause, String before, String command) {
        Check.same("P5 done: " + before, Check.withText(before).load(), 0);
        StripeTasks x = Check.withText(before + command);
        Check.same("P5 left out: " + cause, x.load(), 1);
        Check.sameText("P5 changes nothing: " + cause, Check.state(x), Check.state(Check.loaded(before)));
    }

    /** "Commands that would throw an exception are left out." */
    private static void loadLeavesOutForEachCause() {
        leftOut("a seventh task", "At1000t1000t1000t1000t1000t1000", "t1000");
        leftOut("bring of no task", "A", "l000");
        leftOut("bring of the task behind the last", "At1000t1000", "l200");
        leftOut("bring where the loader has a job", "At1000t1000l000", "l111");
        leftOut("bring beyond the stripe 11", "At2000", "l011");
        leftOut("bring far beyond the stripe 11", "At6000", "l007");
        leftOut("bring to a bad stripe", "At2000b06", "l005");
        leftOut("bring to a taken stripe", "At2000t2000l004w06", "l105");
        leftOut("stop of no task", "A", "s0");
        leftOut("stop of the task behind the last", "At1000", "s1");
        leftOut("stop of a task that is off", "At1000", "s0");
        leftOut("stop of a loaded task", "At1000l000", "s0");
        leftOut("stop of a task that moves", "At1000l000w03l005", "s0");
        leftOut("stop of a task that is handed over", "At1000l000w03l000", "s0");
    }

    private static void loadOfEveryCommand() {
        StripeTasks x = Check.loaded("At3123t1996l007b00b11g11w09s0l110w01");
        Check.same("P5 t", x.about(0), 2);
        Check.same("P5 t width", x.task(0, 0), 3);
        Check.same("P5 t value", x.task(1, 1), 996);
        Check.same("P5 l and w and s", x.task(0, 1), (31 * 123 + 22) % 997);
        Check.same("P5 s", x.task(0, 4), 0);
        Check.same("P5 l with two digits", x.job(1), 10);
        Check.same("P5 l of task 1", x.job(0), 1);
        Check.same("P5 w", x.about(1), 10);
        Check.same("P5 b", x.stripe(0, 2), 1);
        Check.same("P5 g", x.stripe(11, 2), 0);
        Check.noState("P5 load remembers no state", () -> Check.loaded("At1000w10"), StripeTasks::undo);
        StripeTasks late = new StripeTasks();
        late.add(1, 1);
        Check.append(late, "A");
        late.load();
        Check.same("P5 load is no action: nothing to undo", late.about(0), 0);
        Check.sameText("P5 load forgets", Check.answer(late, StripeTasks::undo), "IllegalStateException");
    }

    /** "a width (1 to 6)", "a value (000 to 996)", "a task (0 to 5)", "a stripe (00 to 11)", "w and two digits (01 to 60)" */
    private static void loadOfBothEnds() {
        StripeTasks x = Check.loaded("At1000t6996");
        Check.same("P5 the least width", x.task(0, 0), 1);
        Check.same("P5 the least value", x.task(0, 1), 0);
        Check.same("P5 the greatest width", x.task(1, 0), 6);
        Check.same("P5 the greatest value", x.task(1, 1), 996);
        String six = "At1000t1000t1000t1000t1000t1000";
        Check.status(Check.loaded(six + "l000"), "P5 the first task to the first stripe", 0, 1, 0);
        Check.status(Check.loaded(six + "l011"), "P5 the first task to the last stripe", 0, 1, 11);
        Check.status(Check.loaded(six + "l500"), "P5 the last task to the first stripe", 5, 1, 0);
        Check.status(Check.loaded(six + "l511"), "P5 the last task to the last stripe", 5, 1, 11);
        Check.status(Check.loaded(six + "l000w03s0"), "P5 stop of the first", 0, 0, -1);
        Check.status(Check.loaded(six + "l500w03s5"), "P5 stop of the last", 5, 0, -1);
        Check.same("P5 the first is bad", Check.loaded("Ab00").stripe(0, 2), 1);
        Check.same("P5 the last is bad", Check.loaded("Ab11").stripe(11, 2), 1);
        Check.same("P5 the first is mended", Check.loaded("Ab00b11g00").about(5), 1);
        Check.same("P5 the last is mended", Check.loaded("Ab00b11g11").stripe(11, 2), 0);
        Check.same("P5 the least run", Check.loaded("Aw01").about(1), 1);
        Check.same("P5 the greatest run", Check.loaded("Aw60").about(1), 60);
        Check.same("P5 none left out of no command", Check.withText("A").load(), 0);
    }
}
