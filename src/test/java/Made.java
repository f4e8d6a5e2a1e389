/** Objects that several tests begin with. Those with remembered states hold fourteen, each of another setting. */
final class Made {
    private static final String SOME = "At3100t2200t1300l003w09l109w06b08";

    private Made() {
    }

    /** Sets how often values are saved, each time to another number, so that each remembered state is another one. */
    private static void fillHistory(StripeTasks x, int times) {
        for (int i = 1; i <= times; i++) {
            x.set(2, 20 + i);
        }
    }

    /** With different states in the slots: they were saved behind 15 and 16 ticks. */
    private static StripeTasks some() {
        StripeTasks x = Check.loaded(SOME);
        x.save(0);
        x.run(1);
        x.save(1);
        return x;
    }

    /**
     * Task 0 runs on 3 to 5, task 1 on 9 and 10, task 2 of width 1 is off, stripe 8 is bad, the loader is idle;
     * 16 ticks, 8 works of task 0 and 2 of task 1 so far. The text is a whole array.
     */
    static StripeTasks idle() {
        StripeTasks x = some();
        fillHistory(x, 13);
        return x;
    }

    /** As idle(), but task 2 is being loaded onto 0, and 3 ticks are left. */
    static StripeTasks loading() {
        StripeTasks x = some();
        fillHistory(x, 12);
        x.bring(2, 0);
        return x;
    }

    /** As idle(), but task 1 is being moved to 0 and 1, runs, and 6 ticks are left. */
    static StripeTasks moving() {
        StripeTasks x = some();
        fillHistory(x, 12);
        x.bring(1, 0);
        return x;
    }

    /** As moving(), but 6 ticks later: task 1 is handed over, and 2 ticks are left. */
    static StripeTasks handedOver() {
        StripeTasks x = some();
        fillHistory(x, 11);
        x.bring(1, 0);
        x.run(6);
        return x;
    }

    /** As idle(), but task 0 is being moved to 2 to 4, so it is handed over, and 11 ticks are left. */
    static StripeTasks ontoOwn() {
        StripeTasks x = some();
        fillHistory(x, 12);
        x.bring(0, 2);
        return x;
    }

    static String fullText() {
        return "As0t2000t2100t2200t2300t2400t2996l000w06l102w06l204w06l306w06l408w06l510w06" + "w01".repeat(15);
    }

    /** 120 characters, six tasks of width 2 that run on all stripes from 0 on, in their order; 51 ticks so far. */
    static StripeTasks full() {
        StripeTasks x = Check.withText(fullText());
        Check.same("the text without a task to stop", x.load(), 1);
        x.save(0);
        x.save(1);
        fillHistory(x, 14);
        return x;
    }

    /** All stripes are bad, and two tasks are off by that. */
    static StripeTasks allBad() {
        return Check.loaded("At6000t2100l000w18l106w06b00b01b02b03b04b05b06b07b08b09b10b11");
    }
}
