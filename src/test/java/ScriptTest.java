import java.util.function.Supplier;

/** Promises 24 and 25: runScript, simulate. Both work on a copy and change nothing. */
final class ScriptTest {
    private static final int[] FAR = {-1, Integer.MIN_VALUE, Integer.MAX_VALUE};

    public static void main(String[] args) {
        commandsThatAct();
        commandsThatAsk();
        commandsThatFail();
        order();
        copy();
        wrongScripts();
        simulateTurns();
        simulateRuns();
        simulateWraps();
        wrongSimulations();
        Check.finish("ScriptTest");
    }

    /** Task 0 runs on 3 to 5 with value 733, task 1 is off, stripe 8 is bad, the loader is idle. */
    private static StripeTasks idle() {
        return Check.loaded("At3100t2200l003w09b08");
    }

    /** As idle(), but task 1 is being loaded onto 9 and 10, with 6 ticks left. */
    private static StripeTasks busy() {
        return Check.loaded("At3100t2200l003w09b08l109");
    }

    private static void script(Supplier<StripeTasks> make, int n, long script, int due) {
        Check.onlyTells("P24 runScript(" + n + ", " + script + ")", make, y -> y.runScript(n, script), due);
    }

    private static void succeeds(Supplier<StripeTasks> make, long group) {
        script(make, 1, group, -1);
    }

    private static void fails(Supplier<StripeTasks> make, long group) {
        script(make, 1, group, 0);
    }

    private static void commandsThatAct() {
        succeeds(ScriptTest::idle, 11000);
        succeeds(ScriptTest::idle, 11100);
        fails(ScriptTest::idle, 11110);
        fails(ScriptTest::idle, 11120);
        fails(ScriptTest::idle, 11080);
        fails(ScriptTest::idle, 11001);
        fails(ScriptTest::idle, 12000);
        fails(ScriptTest::busy, 11000);
        fails(ScriptTest::idle, 19990);
        succeeds(ScriptTest::idle, 20001);
        succeeds(ScriptTest::idle, 20060);
        fails(ScriptTest::idle, 20000);
        fails(ScriptTest::idle, 20061);
        fails(ScriptTest::idle, 20101);
        fails(ScriptTest::idle, 21001);
        succeeds(ScriptTest::idle, 30000);
        succeeds(ScriptTest::idle, 30800);
        succeeds(ScriptTest::idle, 31100);
        fails(ScriptTest::idle, 31200);
        fails(ScriptTest::idle, 39900);
        fails(ScriptTest::idle, 30001);
        fails(ScriptTest::idle, 30010);
        succeeds(ScriptTest::idle, 40000);
        succeeds(ScriptTest::idle, 40800);
        succeeds(ScriptTest::idle, 41100);
        fails(ScriptTest::idle, 41200);
        fails(ScriptTest::idle, 40001);
        fails(ScriptTest::idle, 40010);
        succeeds(ScriptTest::idle, 50000);
        fails(ScriptTest::idle, 51000);
        fails(ScriptTest::idle, 52000);
        fails(ScriptTest::idle, 50001);
        fails(ScriptTest::idle, 50010);
        fails(ScriptTest::idle, 50100);
    }

    private static void commandsThatAsk() {
        succeeds(ScriptTest::idle, 60002);
        fails(ScriptTest::idle, 60001);
        succeeds(ScriptTest::idle, 61000);
        succeeds(ScriptTest::busy, 61001);
        succeeds(() -> Check.loaded("At1100l000w03l000"), 60003);
        fails(ScriptTest::idle, 60004);
        fails(ScriptTest::idle, 62000);
        fails(ScriptTest::idle, 60012);
        fails(ScriptTest::idle, 60102);
        fails(ScriptTest::idle, 61010);
        fails(ScriptTest::idle, 61100);
        int value = Check.valueAfter(3, 100, 1);
        succeeds(ScriptTest::idle, 70000 + value);
        fails(ScriptTest::idle, 70000 + value + 1);
        succeeds(ScriptTest::idle, 71200);
        fails(ScriptTest::idle, 72200);
        fails(ScriptTest::idle, 72000);
        succeeds(() -> Check.loaded("At1000"), 70000);
        fails(ScriptTest::idle, 70999);
        succeeds(ScriptTest::idle, 80300);
        succeeds(ScriptTest::idle, 80500);
        fails(ScriptTest::idle, 80600);
        succeeds(ScriptTest::idle, 80609);
        fails(ScriptTest::idle, 80309);
        succeeds(ScriptTest::idle, 80809);
        succeeds(ScriptTest::busy, 81001);
        fails(ScriptTest::busy, 81000);
        fails(ScriptTest::idle, 80605);
        fails(ScriptTest::idle, 80608);
        fails(ScriptTest::idle, 81209);
        fails(ScriptTest::idle, 89909);
        fails(ScriptTest::idle, 80310);
        succeeds(ScriptTest::idle, 90000);
        succeeds(ScriptTest::busy, 90006);
        succeeds(ScriptTest::busy, 90099);
        fails(ScriptTest::busy, 90005);
        fails(ScriptTest::idle, 90100);
        fails(ScriptTest::idle, 91000);
        Supplier<StripeTasks> moving = () -> Check.loaded("At1100l000w03l005");
        succeeds(moving, 90005);
        fails(moving, 90004);
    }

    private static void commandsThatFail() {
        fails(ScriptTest::idle, 0);
        fails(ScriptTest::idle, 1);
        fails(ScriptTest::idle, 9999);
        script(ScriptTest::idle, 2, 20001, 0);
        script(ScriptTest::idle, 3, 2000120001L, 0);
        script(ScriptTest::idle, 3, 200010000020001L, 1);
    }

    private static void order() {
        script(ScriptTest::idle, 3, 200012000120001L, -1);
        script(ScriptTest::idle, 3, 200002000020000L, 0);
        script(ScriptTest::idle, 3, 200012000020000L, 1);
        script(ScriptTest::idle, 3, 200012000120000L, 2);
        script(ScriptTest::idle, 2, 1100061001L, -1);
        script(ScriptTest::idle, 2, 6100111000L, 0);
        script(ScriptTest::idle, 3, 110002000661002L, -1);
        script(ScriptTest::idle, 3, 110002000561002L, 2);
        script(ScriptTest::idle, 3, 304004040010040L, -1);
        script(ScriptTest::idle, 3, 304004030010040L, 2);
        script(ScriptTest::idle, 2, 5000080309L, -1);
        script(ScriptTest::idle, 2, 5000050000L, 1);
        script(ScriptTest::busy, 2, 3090090000L, -1);
        script(ScriptTest::busy, 2, 2000690000L, -1);
        script(ScriptTest::idle, 3, 999999999999999L, 0);
    }

    private static void copy() {
        StripeTasks x = idle();
        String before = Check.state(x);
        Check.same("P24 once", x.runScript(3, 110002006030500L), -1);
        Check.sameText("P24 on a copy", Check.state(x), before);
        Check.same("P24 once more", x.runScript(3, 110002006030500L), -1);
        Check.same("P25 once", x.simulate(7, 60), x.simulate(7, 60));
        Check.sameText("P25 on a copy", Check.state(x), before);
        Check.sameText("P24 P25 are no actions", Check.answer(x, StripeTasks::undo), "IllegalStateException");
    }

    private static void wrongScripts() {
        for (int n : FAR) {
            Check.noArgument("P24 n " + n, ScriptTest::idle, y -> y.runScript(n, 20001));
        }
        Check.noArgument("P24 n 0", ScriptTest::idle, y -> y.runScript(0, 0));
        Check.noArgument("P24 n 4", ScriptTest::idle, y -> y.runScript(4, 20001));
        Check.noArgument("P24 script -1", ScriptTest::idle, y -> y.runScript(1, -1));
        Check.noArgument("P24 the least script", ScriptTest::idle, y -> y.runScript(3, Long.MIN_VALUE));
        Check.noArgument("P24 the greatest script", ScriptTest::idle, y -> y.runScript(3, Long.MAX_VALUE));
        Check.noArgument("P24 6 digits", ScriptTest::idle, y -> y.runScript(1, 100000));
        Check.noArgument("P24 11 digits", ScriptTest::idle, y -> y.runScript(2, 10000000000L));
        Check.noArgument("P24 16 digits", ScriptTest::idle, y -> y.runScript(3, 1000000000000000L));
        script(ScriptTest::idle, 1, 99999, 0);
        script(ScriptTest::idle, 2, 9999999999L, 0);
    }

    /** The turns that the seed tells, done as calls of the face on an object of their own. */
    static int turns(StripeTasks x, long seed, int m) {
        int worksBefore = x.about(8);
        long number = seed;
        for (int i = 0; i < m; i++) {
            number = number * 6364136223846793005L + 1442695040888963407L;
            int r = (int) (number >>> 33);
            int q = r / 8;
            switch (r % 8) {
                case 0 -> Check.answer(x, y -> y.add(1 + q % 6, q / 8 % 997));
                case 1, 2 -> Check.answer(x, y -> y.bring(q % 6, q / 8 % 12));
                case 3 -> Check.answer(x, y -> q / 16 % 4 == 0 ? y.turnBad(q % 12) : y.mend(q % 12));
                case 4 -> Check.answer(x, y -> y.stop(q % 6));
                default -> Check.answer(x, y -> y.run(1 + q % 20));
            }
        }
        return 10000 * x.about(2) + Math.min(9999, x.about(8) - worksBefore);
    }

    private static void simulateTurns() {
        long[] seeds = {0, 1, -1, 42, 1234567890123L, Long.MIN_VALUE, Long.MAX_VALUE};
        for (long seed : seeds) {
            for (int m : new int[] {1, 2, 3, 10, 30, 60}) {
                int due = turns(busy(), seed, m);
                Check.onlyTells("P25 simulate(" + seed + ", " + m + ")", ScriptTest::busy, y -> y.simulate(seed, m), due);
                int dueOfNew = turns(new StripeTasks(), seed, m);
                Check.same("P25 simulate in a new object", new StripeTasks().simulate(seed, m), dueOfNew);
            }
        }
    }

    /** Seeds for which the first turn is known, by going back from the x that is wanted. */
    static long seedFor(int r) {
        long wanted = (long) r << 33;
        long inverse = 1;
        for (int i = 0; i < 6; i++) {
            inverse *= 2 - 6364136223846793005L * inverse;
        }
        return (wanted - 1442695040888963407L) * inverse;
    }

    private static void simulateRuns() {
        Supplier<StripeTasks> running = () -> Check.loaded("At3100t2200l003w09l109w06");
        Check.onlyTells("P25 run(1)", running, y -> y.simulate(seedFor(5), 1), 20002);
        Check.onlyTells("P25 run(20)", running, y -> y.simulate(seedFor(8 * 19 + 7), 1), 20040);
        Check.onlyTells("P25 run(20) again", running, y -> y.simulate(seedFor(8 * 39 + 6), 1), 20040);
        Check.onlyTells("P25 stop(1)", running, y -> y.simulate(seedFor(8 + 4), 1), 10000);
        Check.onlyTells("P25 stop(3)", running, y -> y.simulate(seedFor(8 * 3 + 4), 1), 20000);
        Check.onlyTells("P25 turnBad(3)", running, y -> y.simulate(seedFor(8 * 3 + 3), 1), 10000);
        Check.onlyTells("P25 mend(4)", running, y -> y.simulate(seedFor(8 * 16 + 3), 1), 20000);
        Check.onlyTells("P25 turnBad(4)", running, y -> y.simulate(seedFor(8 * 64 + 3), 1), 10000);
        Check.onlyTells("P25 bring(0, 3)", running, y -> y.simulate(seedFor(8 * 24 + 1), 1), 10000);
        Check.onlyTells("P25 bring(0, 0), moving", running, y -> y.simulate(seedFor(2), 1), 20000);
        Check.onlyTells("P25 add", running, y -> y.simulate(seedFor(0), 1), 20000);
    }

    /** "A long x starts as the seed", "with long overflow": also where x is negative, and at both ends of r. */
    private static void simulateWraps() {
        Supplier<StripeTasks> running = () -> Check.loaded("At3100t2200l003w09l109w06");
        int half = 1 << 30;
        Check.onlyTells("P25 the greatest r: run(16)", running, y -> y.simulate(seedFor(Integer.MAX_VALUE), 1), 20032);
        Check.onlyTells("P25 the least r: add", running, y -> y.simulate(seedFor(0), 1), 20000);
        // 2^30 / 8 is 134217728, its rest by 6 is 2, by 20 it is 8, by 12 it is 8
        Check.onlyTells("P25 a negative x: stop(2)", running, y -> y.simulate(seedFor(half + 4), 1), 20000);
        Check.onlyTells("P25 a negative x: stop(0)", running, y -> y.simulate(seedFor(half + 4 * 8 + 4), 1), 10000);
        Check.onlyTells("P25 a negative x: run(9)", running, y -> y.simulate(seedFor(half + 5), 1), 20018);
        Check.onlyTells("P25 a negative x: turnBad(9)", running, y -> y.simulate(seedFor(half + 8 + 3), 1), 10000);
        // q is 15, 16, 63 and 64, its rest by 12 is 3, 4, 3 and 4
        Check.onlyTells("P25 the last turnBad", running, y -> y.simulate(seedFor(8 * 15 + 3), 1), 10000);
        Check.onlyTells("P25 the first mend", running, y -> y.simulate(seedFor(8 * 16 + 3), 1), 20000);
        Check.onlyTells("P25 the last mend", running, y -> y.simulate(seedFor(8 * 63 + 3), 1), 20000);
        Check.onlyTells("P25 turnBad again", running, y -> y.simulate(seedFor(8 * 64 + 3), 1), 10000);
        for (long seed = -150; seed <= 150; seed++) {
            long spread = seed * 0x9E3779B97F4A7C15L;
            int due = turns(new StripeTasks(), spread, 60);
            Check.same("P25 simulate(" + spread + ", 60) in a new object", new StripeTasks().simulate(spread, 60), due);
            int dueOfBusy = turns(busy(), spread, 4);
            Check.same("P25 simulate(" + spread + ", 4)", busy().simulate(spread, 4), dueOfBusy);
        }
    }

    private static void wrongSimulations() {
        for (int n : FAR) {
            Check.noArgument("P25 m " + n, ScriptTest::busy, y -> y.simulate(1, n));
        }
        Check.noArgument("P25 m 0", ScriptTest::busy, y -> y.simulate(1, 0));
        Check.noArgument("P25 m 61", ScriptTest::busy, y -> y.simulate(1, 61));
    }
}
