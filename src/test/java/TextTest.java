/** Promises 2 to 5: append, clearText, errorPosition, load. */
final class TextTest {
    public static void main(String[] args) {
        append();
        clearText();
        errorPosition();
        errorAtEachDigit();
        load();
        loadMakesNew();
        loadLeavesOut();
        loadOfEveryCommand();
        Check.finish("TextTest");
    }

    private static String many(String part, int times) {
        return part.repeat(times);
    }

    private static void append() {
        StripeTasks x = new StripeTasks();
        Check.same("P2 first append", x.append('A'), 1);
        Check.same("P2 append(0)", x.append(0), 2);
        Check.same("P2 append(255)", x.append(255), 3);
        for (int length = 4; length <= 120; length++) {
            Check.same("P2 append up to 120", x.append('x'), length);
        }
        Check.noArgument("P2 append(-1)", StripeTasks::new, y -> y.append(-1));
        Check.noArgument("P2 append(256)", StripeTasks::new, y -> y.append(256));
        Check.noArgument("P2 append(65 + 65536)", StripeTasks::new, y -> y.append(65 + 65536));
        Check.noArgument("P2 append(least int)", StripeTasks::new, y -> y.append(Integer.MIN_VALUE));
        Check.noArgument("P2 append(greatest int)", StripeTasks::new, y -> y.append(Integer.MAX_VALUE));
        Check.noState("P2 append to 120", () -> Check.withText("A" + many("s", 119)), y -> y.append('A'));
        Check.noArgument("P2 wrong append to 120", () -> Check.withText(many("A", 120)), y -> y.append(256));
    }

    private static void clearText() {
        StripeTasks x = new StripeTasks();
        Check.same("P3 clearText of nothing", x.clearText(), 0);
        Check.append(x, "At1000");
        Check.same("P3 clearText", x.clearText(), 6);
        Check.same("P3 clearText again", x.clearText(), 0);
        Check.same("P3 append behind it", x.append('A'), 1);
        Check.same("P3 the text behind it", x.errorPosition(), -1);
        Check.append(x, many("s", 119));
        Check.same("P3 clearText of 120", x.clearText(), 120);
        Check.same("P3 append behind 120", x.append('A'), 1);
        StripeTasks busy = Check.loaded("At1000l000w05");
        String before = Check.state(busy);
        Check.same("P3 clearText of a loaded one", busy.clearText(), 13);
        Check.sameText("P3 clearText keeps the state", Check.state(busy), before);
    }

    private static void error(String text, int due) {
        Check.onlyTells("P4 errorPosition of \"" + text + "\"", () -> Check.withText(text), StripeTasks::errorPosition, due);
    }

    private static void errorPosition() {
        error("", 0);
        error("A", -1);
        error("a", 0);
        error("B", 0);
        error(" A", 0);
        error("A ", 1);
        error("AA", 1);
        error("At1000", -1);
        error("At1000 ", 6);
        error("At1000t6996l500b11g00s5w60w01", -1);
        error("At", 2);
        error("At1", 3);
        error("At10", 4);
        error("At100", 5);
        error("Al", 2);
        error("Al0", 3);
        error("Al01", 4);
        error("Ab", 2);
        error("Ab1", 3);
        error("Ag0", 3);
        error("As", 2);
        error("Aw", 2);
        error("Aw3", 3);
        error("AT1000", 1);
        error("A\u0000", 1);
        error("A\u00ff", 1);
        error("At1000x1", 6);
        error("At7000s9", 2);
        error("t1000", 0);
        error("A" + many("s0", 59) + "s", 120);
        error("A" + many("s0", 58) + "w60", -1);
    }

    /** Each digit that is allowed at each place, and no other character. */
    private static void errorAtEachDigit() {
        for (char c = 0; c <= 255; c++) {
            int digit = c >= '0' && c <= '9' ? c - '0' : -1;
            place("At", c, digit >= 1 && digit <= 6);
            place("At1", c, digit >= 0);
            place("At19", c, digit >= 0);
            place("At18", c, digit >= 0);
            place("At109", c, digit >= 0);
            place("At198", c, digit >= 0);
            place("At199", c, digit >= 0 && digit <= 6);
            place("Al", c, digit >= 0 && digit <= 5);
            place("Al5", c, digit == 0 || digit == 1);
            place("Al50", c, digit >= 0);
            place("Al51", c, digit == 0 || digit == 1);
            place("As", c, digit >= 0 && digit <= 5);
            place("Aw", c, digit >= 0 && digit <= 6);
            place("Aw0", c, digit >= 1);
            place("Aw5", c, digit >= 0);
            place("Aw6", c, digit == 0);
            for (String letter : new String[] {"b", "g"}) {
                place("A" + letter, c, digit == 0 || digit == 1);
                place("A" + letter + "0", c, digit >= 0);
                place("A" + letter + "1", c, digit == 0 || digit == 1);
            }
            place("A", c, "tlbgsw".indexOf(c) >= 0);
            place("As0", c, "tlbgsw".indexOf(c) >= 0);
            place("", c, c == 'A');
        }
    }

    private static void place(String before, char c, boolean allowed) {
        int got = Check.withText(before + c).errorPosition();
        String what = "P4 whether " + (int) c + " is allowed behind \"" + before + "\"";
        Check.same(what, got == before.length() ? 0 : 1, allowed ? 1 : 0);
    }

    private static void load() {
        Check.noState("P5 load of no text", StripeTasks::new, StripeTasks::load);
        Check.noState("P5 load of a wrong text", () -> Check.withText("At1000l"), StripeTasks::load);
        Check.noState("P5 load of a wrong text in a used object", TextTest::usedWithWrongText, StripeTasks::load);
        StripeTasks x = Check.withText("A");
        Check.same("P5 load of A", x.load(), 0);
        Check.sameText("P5 what A is", Check.state(x), Check.state(new StripeTasks()));
        Check.same("P5 load keeps the text", x.clearText(), 1);
    }

    private static StripeTasks used() {
        StripeTasks x = Check.loaded("At2005l003w09");
        x.set(0, 9);
        x.set(1, 0);
        x.set(2, 1);
        x.save(0);
        x.save(1);
        x.bring(0, 7);
        x.turnBad(11);
        x.turnBad(7);
        x.run(5);
        return x;
    }

    private static StripeTasks usedWithWrongText() {
        StripeTasks x = used();
        Check.append(x, "w00");
        return x;
    }

    private static void loadMakesNew() {
        StripeTasks x = used();
        x.clearText();
        Check.append(x, "A");
        Check.same("P5 load again", x.load(), 0);
        String fresh = Check.everything(Check.withText("A"));
        Check.sameText("P5 load makes everything as in a new object, without remembered states and saved ones",
                Check.everything(x), fresh);
        StripeTasks twice = Check.loaded("At2005l003w09");
        twice.run(1);
        twice.save(1);
        Check.same("P5 the same text again", twice.load(), 0);
        Check.sameText("P5 the same text again gives the same", Check.everything(twice),
                Check.everything(Check.loaded("At2005l003w09")));
    }

    private static void left(String text, int due) {
        Check.same("P5 commands left out of " + text, Check.withText(text).load(), due);
    }

    private static void loadLeavesOut() {
        left("Al000", 1);
        left("As0l511s5", 3);
        left("A" + many("t1000", 6), 0);
        left("A" + many("t1000", 8), 2);
        left("At1000l000l001", 1);
        left("At1000l000s0w03s0s0", 2);
        left("At2000l011", 1);
        left("At2000b03l002g03l002", 1);
        left("Ab00b00g00g00g11", 0);
        StripeTasks x = Check.withText("As0t1007l111l000w04");
        Check.same("P5 left out among others", x.load(), 2);
        Check.same("P5 the others are done", x.task(0, 3), 2);
    }

    private static void loadOfEveryCommand() {
        StripeTasks x = Check.loaded("At3123t1996l007b00b11g11w09s0l110w01");
        Check.same("P5 t", x.about(0), 2);
        Check.same("P5 t width", x.task(0, 0), 3);
        Check.same("P5 t value", x.task(1, 1), 996);
        Check.same("P5 l and w and s", x.task(0, 1), (31 * 123 + 22) % 997);
        Check.same("P5 s", x.task(0, 4), 0);
        Check.same("P5 l with two digits", x.job(1), 10);
        Check.same("P5 l of task 1", x.job(0), 1);
        Check.same("P5 w", x.about(1), 10);
        Check.same("P5 b", x.stripe(0, 2), 1);
        Check.same("P5 g", x.stripe(11, 2), 0);
        Check.noState("P5 load remembers no state", () -> Check.loaded("At1000w10"), StripeTasks::undo);
        StripeTasks late = new StripeTasks();
        late.add(1, 1);
        Check.append(late, "A");
        late.load();
        Check.same("P5 load is no action: nothing to undo", late.about(0), 0);
        Check.sameText("P5 load forgets", Check.answer(late, StripeTasks::undo), "IllegalStateException");
    }
}
