import java.util.function.Supplier;

/** Promises 19 to 23: bestGap, window, idleIn, coming, lost. None of these calls changes anything. */
final class FindTest {
    private static final int[] FAR = {-1, Integer.MIN_VALUE, Integer.MAX_VALUE};

    public static void main(String[] args) {
        bestGap();
        bestGapWithJobs();
        bestGapOfTwo();
        window();
        windowWithJobs();
        windowPlaces();
        idleIn();
        idleInCountsDown();
        coming();
        comingWithJobs();
        comingAsItComes();
        lost();
        lostEachStripe();
        lostWithJobs();
        lostOnce();
        Check.finish("FindTest");
    }

    private static void bestGap() {
        // gaps: 0 to 2, 4 and 5, 7 to 9, 11
        Supplier<StripeTasks> gaps = () -> Check.loaded("Ab03b06b10");
        int[] due = {11, 4, 0, -1, -1, -1};
        for (int width = 1; width <= 6; width++) {
            int asked = width;
            Check.onlyTells("P19 bestGap(" + width + ")", gaps, y -> y.bestGap(asked), due[width - 1]);
            Check.onlyTells("P19 one gap", StripeTasks::new, y -> y.bestGap(asked), 0);
        }
        for (int n : FAR) {
            Check.noArgument("P19 bestGap(" + n + ")", gaps, y -> y.bestGap(n));
        }
        Check.noArgument("P19 bestGap(0)", gaps, y -> y.bestGap(0));
        Check.noArgument("P19 bestGap(7)", gaps, y -> y.bestGap(7));
        Check.same("P19 a gap at the end", Check.loaded("Ab05").bestGap(6), 6);
        Check.same("P19 the longer one, where the shorter is too short", Check.loaded("Ab05").bestGap(5), 0);
        StripeTasks none = Check.loaded("At6000t6000l000w18l106");
        Check.same("P19 no gap", none.bestGap(1), -1);
    }

    private static void bestGapWithJobs() {
        // 2 and 3 are taken: gaps 0 and 1, 4 to 11
        StripeTasks x = Check.loaded("At2000l002w06");
        Check.same("P19 beside a taken one", x.bestGap(2), 0);
        Check.same("P19 behind a taken one", x.bestGap(3), 4);
        x.bring(0, 6);
        Check.same("P19 between taken and brought to", x.bestGap(1), 0);
        Check.same("P19 behind brought to", x.bestGap(3), 8);
        Check.same("P19 not over brought to", x.bestGap(5), -1);
        Check.same("P19 loaded ones are taken", Check.loaded("At2000l002").bestGap(3), 4);
    }

    /** "the shortest gap with at least so many stripes, of several the first one; NONE if there is none" */
    private static void bestGapOfTwo() {
        for (int bad = 0; bad < 12; bad++) {
            StripeTasks x = new StripeTasks();
            x.turnBad(bad);
            int before = bad;
            int behind = 11 - bad;
            for (int width = 1; width <= 6; width++) {
                boolean first = before >= width && (before < behind || behind < width);
                int due = first ? 0 : behind >= width ? bad + 1 : -1;
                Check.same("P19 " + bad + " is bad, bestGap(" + width + ")", x.bestGap(width), due);
            }
        }
        // gaps of 3, 3 and 4, then of 4, 3 and 3
        StripeTasks x = Check.loaded("Ab03b07");
        Check.same("P19 of two the first one", x.bestGap(3), 0);
        Check.same("P19 the only one of 4", x.bestGap(4), 8);
        Check.same("P19 none of 5", x.bestGap(5), -1);
        StripeTasks y = Check.loaded("Ab04b08");
        Check.same("P19 of two behind another the first one", y.bestGap(3), 5);
        Check.same("P19 one of just so many", y.bestGap(4), 0);
        // brought to are 0 and 1, taken 5 and 6: gaps of 3 and 5
        StripeTasks moving = Check.loaded("At2000l005w06l000");
        Check.same("P19 between brought to and taken", moving.bestGap(3), 2);
        Check.same("P19 behind taken", moving.bestGap(4), 7);
        Check.same("P19 not with them", moving.bestGap(6), -1);
    }

    private static void windows(String what, Supplier<StripeTasks> make, int width, int first, int widths) {
        Check.onlyTells(what + ": window(" + width + ", 0)", make, y -> y.window(width, 0), first);
        Check.onlyTells(what + ": window(" + width + ", 1)", make, y -> y.window(width, 1), widths);
    }

    private static void window() {
        windows("P20 all free", StripeTasks::new, 1, 0, 0);
        windows("P20 all free", StripeTasks::new, 12, 0, 0);
        // 0 takes 1 to 3, 1 takes 5, 2 takes 8 and 9
        Supplier<StripeTasks> three = () -> Check.loaded("At3000t1000t2000l001w09l105w03l208w06");
        windows("P20", three, 1, 0, 0);
        windows("P20", three, 2, 6, 0);
        windows("P20", three, 3, 4, 1);
        windows("P20", three, 4, 4, 1);
        windows("P20", three, 5, 6, 2);
        windows("P20", three, 6, 6, 2);
        windows("P20", three, 7, 4, 3);
        windows("P20", three, 8, 4, 3);
        windows("P20", three, 9, 0, 6);
        windows("P20", three, 12, 0, 6);
        Supplier<StripeTasks> bad = () -> Check.loaded("At3000t1000t2000l001w09l105w03l208w06b06");
        windows("P20 none over a bad one", bad, 5, 7, 2);
        windows("P20 before a bad one", bad, 6, 0, 4);
        windows("P20 no window", bad, 7, -1, -1);
        windows("P20 no window", bad, 12, -1, -1);
        for (int n : FAR) {
            Check.noArgument("P20 window(" + n + ", 0)", three, y -> y.window(n, 0));
            Check.noArgument("P20 window(1, " + n + ")", three, y -> y.window(1, n));
        }
        Check.noArgument("P20 window(0, 1)", three, y -> y.window(0, 1));
        Check.noArgument("P20 window(13, 1)", three, y -> y.window(13, 1));
        Check.noArgument("P20 window(1, 2)", three, y -> y.window(1, 2));
    }

    private static void windowWithJobs() {
        Supplier<StripeTasks> moving = () -> Check.loaded("At2000t1000l002w06l006");
        windows("P20 none over brought to", moving, 4, 8, 0);
        windows("P20 before brought to", moving, 5, 0, 2);
        windows("P20 none as wide", moving, 7, -1, -1);
        Supplier<StripeTasks> loading = () -> Check.loaded("At2000l006");
        windows("P20 a loaded task can be in the way", loading, 7, 0, 2);
        windows("P20 a loaded task is in the way", loading, 12, 0, 2);
        Supplier<StripeTasks> own = () -> Check.loaded("At3000l004w09l005");
        windows("P20 one old stripe that is not brought to", own, 5, 0, 3);
        windows("P20 a brought to one is not", own, 6, -1, -1);
    }

    /** The first and the last place of a window; "each one that takes one of its stripes counts with its whole width" */
    private static void windowPlaces() {
        for (int width = 1; width <= 12; width++) {
            StripeTasks left = new StripeTasks();
            StripeTasks right = new StripeTasks();
            for (int s = 0; s < 12 - width; s++) {
                left.turnBad(11 - s);
                right.turnBad(s);
            }
            Check.same("P20 the first place of " + width, left.window(width, 0), 0);
            Check.same("P20 the last place of " + width, right.window(width, 0), 12 - width);
            Check.same("P20 nothing is in its way", right.window(width, 1), 0);
            if (width < 12) {
                Check.same("P20 no place of one more", left.window(width + 1, 0), -1);
                Check.same("P20 nothing is in the way of none", right.window(width + 1, 1), -1);
            }
        }
        windows("P20 its last stripe counts with the whole width", () -> Check.loaded("At6000l000w18b11b10b09"), 4, 0, 6);
        Supplier<StripeTasks> two = () -> Check.loaded("At1000t6000b08b09b10b11l000w03l102w18");
        windows("P20 the narrow one in its way", two, 2, 0, 1);
        windows("P20 better the wide one alone than both", two, 3, 1, 6);
        windows("P20 both in its way", two, 8, 0, 7);
        windows("P20 a bad one in each", two, 9, -1, -1);
    }

    private static void idleIn() {
        Check.onlyTells("P21 idle", StripeTasks::new, StripeTasks::idleIn, 0);
        Check.onlyTells("P21 a loading", () -> Check.loaded("At2000l002w01"), StripeTasks::idleIn, 5);
        Check.onlyTells("P21 a loading done", () -> Check.loaded("At2000l002w06"), StripeTasks::idleIn, 0);
        Check.onlyTells("P21 a move", () -> Check.loaded("At2000l002w06l006w01"), StripeTasks::idleIn, 7);
        Check.onlyTells("P21 a handing over", () -> Check.loaded("At2000l002w06l006w06"), StripeTasks::idleIn, 2);
        Check.onlyTells("P21 onto its own", () -> Check.loaded("At2000l002w06l001"), StripeTasks::idleIn, 8);
        Check.onlyTells("P21 a lost job", () -> Check.loaded("At2000l002w06l001b01"), StripeTasks::idleIn, 0);
        StripeTasks x = Check.loaded("At2000l002w06");
        x.set(1, 0);
        x.bring(0, 6);
        Check.same("P21 a move with no handing over", x.idleIn(), 6);
        x.set(1, 20);
        Check.same("P21 with one that is set now", x.idleIn(), 26);
        x.run(25);
        Check.same("P21 not idle before", x.job(0), 0);
        x.run(1);
        Check.same("P21 idle then", x.job(0), -1);
    }

    /** "Returns how many ticks have to go by, if nothing else is done; 0 if it is idle." */
    private static void idleInCountsDown() {
        String[] jobs = {"At2000l002", "At2000l002w06l006", "At2000l002w06l001", "At1000l000w03l000", "At6000l000w18l006"};
        for (String job : jobs) {
            StripeTasks x = Check.loaded(job);
            int ticks = x.idleIn();
            for (int left = ticks; left > 0; left--) {
                Check.same("P21 with a job, " + job, x.job(0), 0);
                Check.same("P21 ticks to go by, " + job, x.idleIn(), left);
                x.run(1);
            }
            Check.same("P21 then it is idle, " + job, x.job(0), -1);
            Check.same("P21 0 if it is idle, " + job, x.idleIn(), 0);
        }
        StripeTasks longest = Check.loaded("At6000l000w18");
        longest.set(0, 9);
        longest.set(1, 20);
        Check.same("P21 the longest job", longest.bring(0, 6), 74);
        Check.same("P21 the longest job", longest.idleIn(), 74);
        StripeTasks shortest = Check.loaded("At1000");
        shortest.set(0, 1);
        Check.same("P21 the shortest job", shortest.bring(0, 6), 1);
        Check.same("P21 the shortest job", shortest.idleIn(), 1);
    }

    private static void coming() {
        Supplier<StripeTasks> some = () -> Check.loaded("At3100t2200l003w13");
        Check.onlyTells("P22 the value", some, y -> y.coming(0, 1, 0), Check.valueAfter(3, 100, 6));
        Check.onlyTells("P22 the saved value, not saved", some, y -> y.coming(0, 6, 1), Check.valueAfter(3, 100, 2));
        Check.onlyTells("P22 the saved value, saved", some, y -> y.coming(0, 7, 1), Check.valueAfter(3, 100, 12));
        Check.onlyTells("P22 the works in them", some, y -> y.coming(0, 1, 2), 1);
        Check.onlyTells("P22 behind 200", some, y -> y.coming(0, 200, 0), Check.valueAfter(3, 100, 205));
        Check.onlyTells("P22 saved behind 200", some, y -> y.coming(0, 200, 1), Check.valueAfter(3, 100, 202));
        Check.onlyTells("P22 works behind 200", some, y -> y.coming(0, 200, 2), 200);
        Check.onlyTells("P22 value of one that is off", some, y -> y.coming(1, 200, 0), 200);
        Check.onlyTells("P22 works of one that is off", some, y -> y.coming(1, 200, 2), 0);
        for (int n : FAR) {
            Check.noIndex("P22 coming(" + n + ", 1, 0)", some, y -> y.coming(n, 1, 0));
            Check.noIndex("P22 coming(" + n + ", 0, 0)", some, y -> y.coming(n, 0, 0));
            Check.noIndex("P22 coming(" + n + ", 1, 3)", some, y -> y.coming(n, 1, 3));
            Check.noArgument("P22 coming(0, " + n + ", 0)", some, y -> y.coming(0, n, 0));
            Check.noArgument("P22 coming(0, 1, " + n + ")", some, y -> y.coming(0, 1, n));
        }
        Check.noIndex("P22 coming(2, 1, 0)", some, y -> y.coming(2, 1, 0));
        Check.noIndex("P22 coming(2, 201, 3)", some, y -> y.coming(2, 201, 3));
        Check.noArgument("P22 coming(0, 0, 0)", some, y -> y.coming(0, 0, 0));
        Check.noArgument("P22 coming(0, 201, 0)", some, y -> y.coming(0, 201, 0));
        Check.noArgument("P22 coming(0, 1, 3)", some, y -> y.coming(0, 1, 3));
    }

    private static void comingWithJobs() {
        Supplier<StripeTasks> loading = () -> Check.loaded("At3100l003w04");
        Check.onlyTells("P22 loaded, before", loading, y -> y.coming(0, 4, 2), 0);
        Check.onlyTells("P22 loaded, then", loading, y -> y.coming(0, 5, 2), 1);
        Check.onlyTells("P22 loaded, its value", loading, y -> y.coming(0, 25, 0), Check.valueAfter(3, 100, 21));
        Check.onlyTells("P22 loaded, its saved value", loading, y -> y.coming(0, 25, 1), Check.valueAfter(3, 100, 12));
        Supplier<StripeTasks> moving = () -> Check.loaded("At2100l003w06l007w01");
        Check.onlyTells("P22 moving", moving, y -> y.coming(0, 4, 2), 4);
        Check.onlyTells("P22 handed over", moving, y -> y.coming(0, 6, 2), 4);
        Check.onlyTells("P22 moved", moving, y -> y.coming(0, 7, 2), 5);
        Check.onlyTells("P22 moved, its value", moving, y -> y.coming(0, 7, 0), Check.valueAfter(2, 100, 7));
        StripeTasks x = moving.get();
        x.coming(0, 100, 0);
        Check.same("P22 the job stays as it is", x.job(2), 5);
        Check.same("P22 the ticks stay as they are", x.about(1), 7);
    }

    /** In each tick of each job: what is told is what comes. */
    private static void comingAsItComes() {
        String[] jobs = {"At2100t1200l002w06l111", "At2100t1200l002w08l006", "At2100t1200l002w09l001", "At2100t1200l002w06s0"};
        for (String job : jobs) {
            StripeTasks x = Check.loaded(job);
            StripeTasks later = Check.loaded(job);
            for (int n = 1; n <= 25; n++) {
                later.run(1);
                for (int t = 0; t <= 1; t++) {
                    String what = "P22 behind " + n + " of " + job;
                    Check.same(what + ", the value", x.coming(t, n, 0), later.task(t, 1));
                    Check.same(what + ", the saved value", x.coming(t, n, 1), later.task(t, 2));
                    Check.same(what + ", the works", x.coming(t, n, 2), later.task(t, 3) - x.task(t, 3));
                }
            }
        }
    }

    private static void lost() {
        Supplier<StripeTasks> some = () -> Check.loaded("At3100t2200l003w13b00");
        int[] due = {0, 0, 0, 3, 3, 3, 0, 0, 0, 0, 0, 0};
        for (int s = 0; s < 12; s++) {
            int asked = s;
            Check.onlyTells("P23 lost(" + s + ")", some, y -> y.lost(asked), due[s]);
        }
        for (int n : FAR) {
            Check.noIndex("P23 lost(" + n + ")", some, y -> y.lost(n));
        }
        Check.noIndex("P23 lost(12)", some, y -> y.lost(12));
        StripeTasks x = Check.loaded("At3100l003w09");
        Check.same("P23 never saved", x.lost(3), 1);
        x.run(1);
        Check.same("P23 just saved", x.lost(3), 0);
        x.run(9);
        Check.same("P23 nine works", x.lost(5), 9);
        x.stop(0);
        x.bring(0, 0);
        Check.same("P23 loaded, saved by stop", x.lost(0), 0);
        x.run(9);
        Check.same("P23 one work since stop", x.lost(0), 1);
        StripeTasks two = Check.loaded("At1100t1100l000w03l111w04");
        Check.same("P23 the first", two.lost(0), 5);
        Check.same("P23 the second", two.lost(11), 2);
    }

    private static void lostWithJobs() {
        StripeTasks x = Check.loaded("At2100l003w08l007w01");
        Check.same("P23 brought to, still running", x.lost(7), 0);
        Check.same("P23 taken, still running", x.lost(4), 4);
        x.run(5);
        Check.same("P23 brought to, handed over", x.lost(8), 3);
        Check.same("P23 taken, handed over", x.lost(3), 3);
        Check.same("P23 neither", x.lost(5), 0);
        Check.same("P23 one loaded for the first time", Check.loaded("At2100l003w05").lost(3), 0);
        StripeTasks own = Check.loaded("At2100l003w08l004");
        Check.same("P23 a new one", own.lost(5), 3);
        Check.same("P23 an old one", own.lost(3), 3);
        Check.same("P23 the one behind", own.lost(6), 0);
    }

    /** "of the task that would be off by that" "(0 if none would be off)": as turnBad tells it */
    private static void lostEachStripe() {
        String[] texts = {"At3100t2200l004w13l100", "At3100t2200l004w13l000", "At3100t2200l004w13l000w09",
            "At3100t2200l004w13l003", "At3100t2200l004w13l006", "At3100t2200l004w13l109w06l100"};
        for (String text : texts) {
            for (int s = 0; s < 12; s++) {
                StripeTasks x = Check.loaded(text);
                int told = x.lost(s);
                int off = x.turnBad(s);
                int since = 0;
                if (off != -1) {
                    int value = x.task(off, 2);
                    x.undo();
                    for (; value != x.task(off, 1) && since < 1000; since++) {
                        value = Check.valueAfter(x.task(off, 0), value, 1);
                    }
                }
                Check.same("P23 lost(" + s + ") in " + text, told, since);
            }
        }
    }

    /** What a bad stripe has taken already is not lost once more. */
    private static void lostOnce() {
        StripeTasks x = Check.loaded("At1100l000w07");
        Check.same("P23 five works", x.lost(0), 5);
        x.turnBad(0);
        x.bring(0, 1);
        Check.same("P23 loaded again", x.lost(1), 0);
        x.set(2, 99);
        x.run(4);
        Check.same("P23 two works behind it", x.lost(1), 2);
    }
}
