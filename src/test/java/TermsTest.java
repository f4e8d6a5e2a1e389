/**
 * The section "Terms", but its parts on text, actions and exceptions: each sentence that names an edge, with a test of
 * its own, above which the sentence stands.
 */
final class TermsTest {
    public static void main(String[] args) {
        stripesAndTasks();
        theLoader();
        aTick();
        badStripes();
        settings();
        callsOfOneObject();
        Check.finish("TermsTest");
    }

    private static void stripesAndTasks() {
        twelveStripes();
        goodAtFirst();
        sixTasks();
        atFirst();
        takesAsManyAsItsWidth();
        takesNoneWithoutFirst();
    }

    private static void theLoader() {
        idleAtFirst();
        loadingOrMove();
        haveToBeGood();
        noOtherTaskTakesOne();
        oneJobAtATime();
        loadedAtOnce();
        loadingTicks();
        takesNoneOfThem();
        takesSomeOfThem();
        handingOverTicks();
        restsAllTheTime();
        newOnesAlone();
    }

    private static void aTick() {
        countedFromZero();
        aTickLess();
        worksInTheTickOfTheEnd();
        restsInTheTickOfTheHandingOver();
        asThatIsThen();
        doneAtOnce();
        idleWhenDone();
        restBy997();
        saves();
        savesByTheNumberOfTheTick();
        savesRunningTasks();
    }

    private static void badStripes() {
        firstAndLastStripeOfATask();
        jobOfAnother();
        loadedOne();
        firstAndLastStripeBroughtTo();
        inTheTickOfTheHandingOver();
        handedOverOne();
        neitherOldNorNew();
        allBad();
    }

    private static void takers(String what, StripeTasks x, int t, int first, int last) {
        for (int s = 0; s < 12; s++) {
            Check.same(what + ", taker of " + s, x.stripe(s, 0), s >= first && s <= last ? t : -1);
        }
    }

    private static void movers(String what, StripeTasks x, int t, int first, int last) {
        for (int s = 0; s < 12; s++) {
            Check.same(what + ", mover to " + s, x.stripe(s, 1), s >= first && s <= last ? t : -1);
        }
    }

    // ---- stripes and tasks

    /** "There are 12 stripes, 0 to 11, side by side" */
    private static void twelveStripes() {
        StripeTasks x = new StripeTasks();
        Check.same("twelve stripes", x.about(3), 12);
        Check.same("side by side", x.about(4), 12);
        Check.same("a window of all of them", x.window(12, 0), 0);
        Check.noIndex("no stripe -1", StripeTasks::new, y -> y.stripe(-1, 2));
        Check.same("the stripe 0", x.stripe(0, 2), 0);
        Check.same("the stripe 11", x.stripe(11, 2), 0);
        Check.noIndex("no stripe 12", StripeTasks::new, y -> y.stripe(12, 2));
    }

    /** "a stripe is good (at first) or bad" */
    private static void goodAtFirst() {
        for (int bad = 0; bad < 12; bad++) {
            StripeTasks x = new StripeTasks();
            for (int s = 0; s < 12; s++) {
                Check.same("good at first", x.stripe(s, 2), 0);
            }
            x.turnBad(bad);
            for (int s = 0; s < 12; s++) {
                Check.same(bad + " alone is bad, " + s, x.stripe(s, 2), s == bad ? 1 : 0);
            }
        }
    }

    /** "There are at most 6 tasks, numbered from 0." */
    private static void sixTasks() {
        StripeTasks x = new StripeTasks();
        Check.sameText("no task 0 yet", Check.answer(x, y -> y.task(0, 0)), "IndexOutOfBoundsException");
        for (int t = 0; t < 6; t++) {
            Check.same("numbered from 0", x.add(1 + t, 0), t);
            Check.same("it is there", x.task(t, 0), 1 + t);
            int next = t + 1;
            Check.sameText("the next is not", Check.answer(x, y -> y.task(next, 0)), "IndexOutOfBoundsException");
        }
        Check.sameText("not a seventh", Check.answer(x, y -> y.add(1, 0)), "IllegalStateException");
        Check.same("six", x.about(0), 6);
    }

    /**
     * "A task has a width of 1 to 6, a value, 0 to 996, a saved value, at first its value, how often it has worked, at
     * first 0, and a first stripe, or none." "A task is off (at first)"
     */
    private static void atFirst() {
        for (int width = 1; width <= 6; width += 5) {
            for (int value = 0; value <= 996; value += 996) {
                StripeTasks x = new StripeTasks();
                x.add(width, value);
                int[] due = {width, value, value, 0, 0, -1};
                for (int what = 0; what <= 5; what++) {
                    Check.same("at first task(0, " + what + ")", x.task(0, what), due[what]);
                }
            }
        }
    }

    /** "A task with a first stripe takes that and those behind it, as many as its width." */
    private static void takesAsManyAsItsWidth() {
        for (int width = 1; width <= 6; width++) {
            for (int first = 0; first + width <= 12; first++) {
                StripeTasks x = new StripeTasks();
                x.add(width, 0);
                x.bring(0, first);
                takers("a loaded one of width " + width, x, 0, first, first + width - 1);
                x.run(3 * width);
                takers("a running one of width " + width, x, 0, first, first + width - 1);
                Check.same("the others are free", x.about(3), 12 - width);
            }
        }
    }

    /** "a first stripe, or none" */
    private static void takesNoneWithoutFirst() {
        StripeTasks x = Check.loaded("At6000t1000l000w18s0");
        takers("without a first stripe", x, -1, -1, -1);
        movers("without a first stripe", x, -1, -1, -1);
        Check.same("all are free", x.about(4), 12);
    }

    // ---- the loader

    /** "The loader is idle, or has a job: a task, a first stripe to which it is brought, and ticks that are left." */
    private static void idleAtFirst() {
        StripeTasks x = Check.loaded("At2000");
        for (int what = 0; what <= 2; what++) {
            Check.same("idle at first, job(" + what + ")", x.job(what), -1);
        }
        x.bring(0, 10);
        Check.same("its task", x.job(0), 0);
        Check.same("its first stripe", x.job(1), 10);
        Check.same("its ticks", x.job(2), 6);
    }

    /** "A job for a task that is off is a loading; one for a task that runs is a move." */
    private static void loadingOrMove() {
        StripeTasks x = Check.loaded("At2000");
        Check.same("a loading takes no handing over", x.bring(0, 3), 6);
        movers("a loading is no move", x, -1, -1, -1);
        x.run(6);
        Check.same("a move takes one", x.bring(0, 8), 8);
        movers("a move", x, 0, 8, 9);
        x.turnBad(3);
        Check.same("off again, so a loading again", x.bring(0, 8), 6);
        movers("a loading again", x, -1, -1, -1);
    }

    /** "The stripes to which a task is brought have to be good" */
    private static void haveToBeGood() {
        for (int bad = 0; bad < 12; bad++) {
            StripeTasks x = Check.loaded("At3000");
            x.turnBad(bad);
            boolean among = bad >= 4 && bad <= 6;
            Check.sameText("to 4 to 6 with " + bad + " bad", Check.answer(x, y -> y.bring(0, 4)),
                    among ? "IllegalStateException" : "9");
            StripeTasks running = Check.loaded("At3000l000w09");
            running.turnBad(bad < 3 ? 11 : bad);
            Check.sameText("a move to 4 to 6 with " + bad + " bad", Check.answer(running, y -> y.bring(0, 4)),
                    among ? "IllegalStateException" : "11");
        }
    }

    /** "and no other task may take one of them" */
    private static void noOtherTaskTakesOne() {
        for (int first = 0; first <= 9; first++) {
            int asked = first;
            boolean beside = first + 2 < 4 || first > 6;
            String due = beside ? "9" : "IllegalStateException";
            StripeTasks off = Check.loaded("At3000t3000l004w09");
            Check.sameText("4 to 6 are taken, to " + first, Check.answer(off, y -> y.bring(1, asked)), due);
            StripeTasks own = Check.loaded("At3000t3000l004w09");
            Check.sameText("itself may take them, to " + first, Check.answer(own, y -> y.bring(0, asked)), "11");
        }
        StripeTasks moving = Check.loaded("At3000t3000l000w09l103w09");
        Check.sameText("a move onto another's last stripe", Check.answer(moving, y -> y.bring(1, 2)),
                "IllegalStateException");
        Check.sameText("a move onto another's first stripe", Check.answer(moving, y -> y.bring(0, 1)),
                "IllegalStateException");
        Check.same("beside it", moving.bring(0, 6), 11);
    }

    /** "a loader that does one job at a time": "or be brought to one of them" */
    private static void oneJobAtATime() {
        String[] busy = {"At1000t1000l003", "At1000t1000l003w03l007", "At1000t1000l003w03l007w03",
            "At1000t1000l003w03l003"};
        for (String text : busy) {
            for (int s = 0; s < 12; s++) {
                int asked = s;
                Check.noState("another job for the loader in " + text, () -> Check.loaded(text), y -> y.bring(1, asked));
                Check.noState("the same task in " + text, () -> Check.loaded(text), y -> y.bring(0, asked));
            }
        }
    }

    /** "A loading: the task is loaded from then on, and takes these stripes" */
    private static void loadedAtOnce() {
        StripeTasks x = Check.loaded("At3000");
        x.bring(0, 9);
        Check.status(x, "loaded from then on", 0, 1, 9);
        takers("loaded from then on", x, 0, 9, 11);
        Check.same("it does not run", x.about(2), 0);
    }

    /** "the job has setting 0 times its width ticks; when they are over, it runs there" */
    private static void loadingTicks() {
        int[] widths = {1, 6};
        int[] settings = {1, 9};
        for (int width : widths) {
            for (int ticks : settings) {
                StripeTasks x = new StripeTasks();
                x.add(width, 5);
                x.set(0, ticks);
                Check.same("ticks in all", x.bring(0, 3), ticks * width);
                Check.same("ticks left", x.job(2), ticks * width);
                for (int i = 1; i < ticks * width; i++) {
                    Check.same("before they are over", x.run(1), 0);
                    Check.same("fewer are left", x.job(2), ticks * width - i);
                    Check.status(x, "before they are over", 0, 1, 3);
                }
                Check.same("when they are over", x.run(1), 1);
                Check.status(x, "when they are over", 0, 2, 3);
            }
        }
    }

    /** "A move onto stripes none of which it takes: the task goes on running where it is" */
    private static void takesNoneOfThem() {
        for (int first : new int[] {1, 7}) {
            StripeTasks x = Check.loaded("At3000l004w09");
            Check.same("side by side with the old ones", x.bring(0, first), 11);
            Check.status(x, "goes on running where it is", 0, 2, 4);
            takers("goes on running where it is", x, 0, 4, 6);
            movers("brought to", x, 0, first, first + 2);
            Check.same("in as many ticks", x.job(2), 9);
            Check.same("works until the last of them", x.run(8), 8);
            Check.status(x, "until the last of them", 0, 2, 4);
            Check.same("not in the last", x.run(1), 0);
            Check.status(x, "then it is handed over", 0, 3, 4);
            takers("it still takes the old ones", x, 0, 4, 6);
            movers("and is still brought to the new ones", x, 0, first, first + 2);
            Check.same("for setting 1 ticks", x.job(2), 2);
        }
    }

    /** "A move onto stripes some of which it takes: it is handed over at once" */
    private static void takesSomeOfThem() {
        for (int first = 2; first <= 6; first++) {
            StripeTasks x = Check.loaded("At3000l004w09");
            Check.same("one to all of the old ones", x.bring(0, first), 11);
            Check.status(x, "handed over at once", 0, 3, 4);
            takers("takes the old ones", x, 0, 4, 6);
            movers("brought to", x, 0, first, first + 2);
            Check.same("together", x.job(2), 11);
        }
        StripeTasks narrow = Check.loaded("At1000l011w03");
        narrow.bring(0, 11);
        Check.status(narrow, "a single stripe, to where it is", 0, 3, 11);
        narrow.undo();
        narrow.bring(0, 10);
        Check.status(narrow, "a single stripe, beside it", 0, 2, 11);
    }

    /** "then it is handed over for setting 1 ticks (it rests; it still takes the old ones)" */
    private static void handingOverTicks() {
        for (int ticks : new int[] {0, 1, 20}) {
            StripeTasks x = Check.loaded("At1000l000w03");
            x.set(1, ticks);
            Check.same("with a handing over of " + ticks, x.bring(0, 11), 3 + ticks);
            x.run(2);
            for (int i = 0; i < ticks; i++) {
                Check.same("rests", x.run(1), 0);
                Check.status(x, "rests", 0, 3, 0);
                Check.same("rests, ticks left", x.job(2), ticks - i);
            }
            Check.same("then it runs", x.run(1), 1);
            Check.status(x, "then it runs at the new ones", 0, 2, 11);
        }
    }

    /** "and rests all the time: setting 0 times its width, and setting 1 ticks, together" */
    private static void restsAllTheTime() {
        for (int ticks : new int[] {0, 1, 20}) {
            StripeTasks x = Check.loaded("At6000l000w18");
            x.set(0, ticks == 20 ? 9 : 1);
            x.set(1, ticks);
            int inAll = 6 * x.setting(0) + ticks;
            Check.same("onto its own", x.bring(0, 5), inAll);
            for (int i = 1; i < inAll; i++) {
                Check.same("rests all the time", x.run(1), 0);
                Check.status(x, "takes the old ones until that is over", 0, 3, 0);
            }
            Check.same("runs when that is over", x.run(1), 1);
            Check.status(x, "runs when that is over", 0, 2, 5);
        }
    }

    /** "It takes the old ones until that is over, the new ones alone then." */
    private static void newOnesAlone() {
        String[] moved = {"At3000l004w09l001w11", "At3000l004w09l003w11"};
        int[] first = {1, 3};
        for (int i = 0; i < moved.length; i++) {
            StripeTasks x = Check.loaded(moved[i]);
            takers("the new ones alone", x, 0, first[i], first[i] + 2);
            movers("not brought to any more", x, -1, -1, -1);
            Check.same("the others are free", x.about(3), 9);
        }
    }

    // ---- a tick

    /** "Ticks are counted from 0." */
    private static void countedFromZero() {
        StripeTasks x = new StripeTasks();
        Check.same("no tick so far", x.about(1), 0);
        x.set(2, 1);
        x.add(1, 7);
        x.set(0, 1);
        x.bring(0, 0);
        x.run(1);
        Check.same("one tick so far", x.about(1), 1);
        Check.same("the tick 0 and 1 more can be divided by 1", x.task(0, 2), (31 * 7 + 8) % 997);
    }

    /** "If the loader has a job, it has a tick less." */
    private static void aTickLess() {
        StripeTasks x = Made.loading();
        for (int left = 2; left >= 1; left--) {
            x.run(1);
            Check.same("a tick less", x.job(2), left);
        }
        x.run(1);
        Check.same("none is left", x.job(2), -1);
        x.run(1);
        Check.same("idle, so none less", x.job(2), -1);
    }

    /** "If none is left: a loading is done: its task runs", and "Each task that runs then works once" */
    private static void worksInTheTickOfTheEnd() {
        StripeTasks loading = Check.loaded("At1100l000w02");
        Check.same("in the last tick of a loading", loading.run(1), 1);
        StripeTasks move = Check.loaded("At1100l000w03l005w04");
        Check.same("in the last tick of a handing over", move.run(1), 1);
        Check.same("at the new stripes", move.task(0, 5), 5);
        StripeTasks own = Check.loaded("At1100l000w03l000w04");
        Check.same("in the last tick of a move onto its own", own.run(1), 1);
        Check.same("once", own.run(1), 1);
    }

    /** "a move whose task is still running: the task is handed over" */
    private static void restsInTheTickOfTheHandingOver() {
        StripeTasks x = Check.loaded("At1100l000w03l005w02");
        Check.same("it worked before", x.task(0, 3), 3);
        Check.same("not in the tick of the handing over", x.run(1), 0);
        Check.status(x, "handed over", 0, 3, 0);
        Check.same("no job is done by that", x.about(6), 1);
    }

    /** "and the job has setting 1 ticks, as that is then" */
    private static void asThatIsThen() {
        StripeTasks x = Check.loaded("At1100l000w03l005w02");
        x.set(1, 20);
        x.run(1);
        Check.same("as it is in the tick of the handing over", x.job(2), 20);
        x.set(1, 1);
        x.run(1);
        Check.same("not as it is later", x.job(2), 19);
        StripeTasks own = Check.loaded("At1100l000w03l000w02");
        own.set(1, 20);
        own.run(1);
        Check.same("a move onto its own has them already", own.job(2), 2);
    }

    /** "but if these are 0, it is done at once" */
    private static void doneAtOnce() {
        StripeTasks x = Check.loaded("At1100l000w03l005w02");
        x.set(1, 0);
        Check.same("works without a rest", x.run(1), 1);
        Check.status(x, "is at the new stripes", 0, 2, 5);
        Check.same("the loader is idle", x.job(2), -1);
        Check.same("the job is done", x.about(6), 2);
        x.undo();
        x.set(1, 1);
        Check.same("with 1 there is a rest", x.run(1), 0);
        Check.status(x, "handed over for one tick", 0, 3, 0);
        Check.same("it is over in the next", x.run(1), 1);
    }

    /** "The loader is idle when a job is done." */
    private static void idleWhenDone() {
        String[] jobs = {"At1100t1100l000w02", "At1100t1100l000w03l005w04", "At1100t1100l000w03l000w04"};
        for (String text : jobs) {
            StripeTasks x = Check.loaded(text);
            Check.sameText("not a tick before", Check.answer(x, y -> y.bring(1, 9)), "IllegalStateException");
            x.run(1);
            Check.same("idle", x.job(0), -1);
            Check.same("the next job", x.bring(1, 9), 3);
        }
    }

    private static void work(int width, int value, int due) {
        StripeTasks x = new StripeTasks();
        x.set(0, 1);
        x.add(width, value);
        x.bring(0, 0);
        Check.same("it works once", x.run(width), 1);
        Check.same("31 times " + value + ", 7 times " + width + " and 1", x.task(0, 1), due);
    }

    /** "its value becomes the rest by 997 of 31 times its value, 7 times its width, and 1, together" */
    private static void restBy997() {
        work(1, 0, 8);
        work(6, 0, 43);
        // 31 * 31 + 8 is 969, 31 * 32 + 8 is 1000
        work(1, 31, 969);
        work(1, 32, 3);
        // 7975 is 8 * 997 - 1, 13958 is 14 * 997, 19941 is 20 * 997 + 1
        work(1, 257, 996);
        work(1, 450, 0);
        work(1, 643, 1);
        // 14954 is 15 * 997 - 1, 20937 is 21 * 997, 26920 is 27 * 997 + 1
        work(6, 481, 996);
        work(6, 674, 0);
        work(6, 867, 1);
        // 30884 is 30 * 997 + 974, 30919 is 31 * 997 + 12
        work(1, 996, 974);
        work(6, 996, 12);
    }

    /** "If the number of the tick and 1 more can be divided by setting 2, the values of all running tasks are saved." */
    private static void saves() {
        for (int every : new int[] {1, 2, 10, 99}) {
            StripeTasks x = new StripeTasks();
            x.add(1, 100);
            x.set(0, 1);
            x.set(2, every);
            x.bring(0, 0);
            int saved = 100;
            for (int tick = 0; tick < 100; tick++) {
                x.run(1);
                saved = (tick + 1) % every == 0 ? Check.valueAfter(1, 100, tick + 1) : saved;
                Check.same("saved every " + every + " ticks, behind tick " + tick, x.task(0, 2), saved);
            }
        }
    }

    /** The number of the tick counts, not the ticks since the setting was changed or the task was loaded. */
    private static void savesByTheNumberOfTheTick() {
        StripeTasks x = Check.loaded("At1100l000w04");
        x.set(2, 7);
        x.run(2);
        Check.same("not behind six", x.task(0, 2), 100);
        x.run(1);
        Check.same("behind seven", x.task(0, 2), Check.valueAfter(1, 100, 5));
        x.set(2, 4);
        x.run(1);
        Check.same("behind eight", x.task(0, 2), Check.valueAfter(1, 100, 6));
    }

    private static void savesRunningTasks() {
        StripeTasks loading = Check.loaded("At1100w07l000w03");
        Check.same("one that runs since this tick", loading.task(0, 2), Check.valueAfter(1, 100, 1));
        StripeTasks resting = Check.loaded("At1100l000w06l005w04");
        Check.same("not one that is handed over", resting.task(0, 2), 100);
        StripeTasks moving = Check.loaded("At1100l000w07l005w03");
        Check.same("not one that is handed over in this tick", moving.task(0, 2), 100);
    }

    // ---- bad stripes

    /** "When a stripe turns bad: the task that takes it is off, without stripes, and has its saved value again" */
    private static void firstAndLastStripeOfATask() {
        for (int s = 0; s < 12; s++) {
            StripeTasks x = Check.loaded("At3100l004w13");
            boolean hit = s >= 4 && s <= 6;
            Check.same("turnBad(" + s + ")", x.turnBad(s), hit ? 0 : -1);
            Check.status(x, "with " + s + " bad", 0, hit ? 0 : 2, hit ? -1 : 4);
            Check.same("its value with " + s + " bad", x.task(0, 1), Check.valueAfter(3, 100, hit ? 2 : 5));
            Check.same("its works with " + s + " bad", x.task(0, 3), 5);
            takers("with " + s + " bad", x, 0, hit ? -1 : 4, hit ? -1 : 6);
            Check.same("no job was there", x.about(7), 0);
        }
    }

    /** "if it has the job of the loader, the job is gone" */
    private static void jobOfAnother() {
        StripeTasks x = Check.loaded("At1100t1100l000w03l101");
        Check.same("the task without the job", x.turnBad(0), 0);
        Check.same("the job stays", x.job(0), 1);
        Check.same("with its ticks", x.job(2), 3);
        Check.same("none is lost", x.about(7), 0);
        x.run(3);
        Check.status(x, "it is done", 1, 2, 1);
    }

    private static void gone(String what, String text, int s, int off) {
        StripeTasks x = Check.loaded(text);
        int done = x.about(6);
        Check.same(what, x.turnBad(s), off);
        for (int asked = 0; asked <= 2; asked++) {
            Check.same(what + ": no job", x.job(asked), -1);
        }
        Check.same(what + ": one is lost", x.about(7), 1);
        Check.same(what + ": none is done", x.about(6), done);
        Check.same(what + ": the loader is idle", x.idleIn(), 0);
        movers(what, x, -1, -1, -1);
        Check.status(x, what, 0, off == 0 ? 0 : 2, off == 0 ? -1 : 4);
        takers(what, x, 0, off == 0 ? -1 : 4, off == 0 ? -1 : 6);
    }

    private static void loadedOne() {
        for (int s = 4; s <= 6; s++) {
            gone("a loaded one, " + s, "At3100l004", s, 0);
            gone("a loaded one, in its last tick, " + s, "At3100l004w08", s, 0);
            gone("one that moves, its old stripe " + s, "At3100l004w09l007", s, 0);
        }
    }

    /** "If a task that is still running is being brought to this stripe, just the job is gone, and it goes on" */
    private static void firstAndLastStripeBroughtTo() {
        for (int s = 8; s <= 10; s++) {
            gone("one that moves, its new stripe " + s, "At3100l004w09l008", s, -1);
            gone("one that moves, in its last tick, " + s, "At3100l004w09l008w08", s, -1);
            StripeTasks x = Check.loaded("At3100l004w09l008w08");
            x.turnBad(s);
            Check.same("it goes on", x.run(2), 2);
            Check.same("with its value", x.task(0, 1), Check.valueAfter(3, 100, 11));
        }
    }

    /** "if it is handed over already, it is off, as if it took the stripe" */
    private static void inTheTickOfTheHandingOver() {
        gone("before the handing over", "At3100l004w09l008w08", 9, -1);
        gone("behind it", "At3100l004w09l008w09", 9, 0);
        gone("in the last tick of it", "At3100l004w09l008w10", 9, 0);
        StripeTasks x = Check.loaded("At3100l004w09l008w11");
        Check.same("when it is over, a new one", x.turnBad(9), 0);
        Check.same("no job is lost by that", x.about(7), 0);
        StripeTasks old = Check.loaded("At3100l004w09l008w11");
        Check.same("when it is over, an old one", old.turnBad(5), -1);
    }

    private static void handedOverOne() {
        for (int s : new int[] {4, 5, 6, 8, 9, 10}) {
            gone("a handed over one, " + s, "At3100l004w09l008w09", s, 0);
            StripeTasks x = Check.loaded("At3100l004w09l008w09");
            x.turnBad(s);
            Check.same("it has its saved value again", x.task(0, 1), Check.valueAfter(3, 100, 2));
        }
        for (int s = 4; s <= 8; s++) {
            gone("one that moves onto its own, " + s, "At3100l004w09l006", s, 0);
        }
        for (int s = 2; s <= 6; s++) {
            gone("one that moves onto its own to the left, " + s, "At3100l004w09l002", s, 0);
        }
    }

    private static void goesOn(String text, int... beside) {
        for (int s : beside) {
            StripeTasks x = Check.loaded(text);
            int ticks = x.job(2);
            int status = x.task(0, 4);
            Check.same("beside it, " + s, x.turnBad(s), -1);
            Check.same("the job stays with " + s + " bad", x.job(2), ticks);
            Check.status(x, "stays with " + s + " bad", 0, status, 4);
            Check.same("no job is lost with " + s + " bad", x.about(7), 0);
        }
    }

    private static void neitherOldNorNew() {
        goesOn("At3100l004", 3, 7);
        goesOn("At3100l004w09l008", 3, 7, 11);
        goesOn("At3100l004w09l008w09", 3, 7, 11);
        goesOn("At3100l004w09l006", 3, 9);
        goesOn("At3100l004w09l002", 1, 7);
    }

    private static void allBad() {
        StripeTasks x = Made.allBad();
        Check.same("all are bad", x.about(5), 12);
        Check.status(x, "off", 0, 0, -1);
        Check.status(x, "off", 1, 0, -1);
        for (int s = 0; s < 12; s++) {
            Check.same("bad once more", x.turnBad(s), -1);
        }
        Check.same("still twelve", x.about(5), 12);
        for (int s = 0; s < 12; s++) {
            Check.same("mended", x.mend(s), 1);
            Check.same("fewer are bad", x.about(5), 11 - s);
        }
        Check.same("a mended one can be brought to", x.bring(0, 6), 18);
    }

    // ---- settings

    /**
     * "0: the ticks for a stripe, 1 to 9, at first 3; 1: the ticks of a handing over, 0 to 20, at first 2; 2: how often
     * values are saved, 1 to 99 ticks, at first 10."
     */
    private static void settings() {
        int[] first = {3, 2, 10};
        int[] least = {1, 0, 1};
        int[] most = {9, 20, 99};
        for (int what = 0; what <= 2; what++) {
            int asked = what;
            Check.same("at first setting(" + what + ")", new StripeTasks().setting(what), first[what]);
            Check.range("set(" + what + ", v)", IllegalArgumentException.class, Made::full, (x, n) -> set(x, asked, n),
                    least[what], least[what], most[what], most[what]);
        }
    }

    /** Sets, and answers what is set then. */
    private static int set(StripeTasks x, int what, int v) {
        int before = x.setting(what);
        int[] others = {x.setting((what + 1) % 3), x.setting((what + 2) % 3)};
        Check.same("set answers the previous one", x.set(what, v), before);
        Check.same("the next one stays", x.setting((what + 1) % 3), others[0]);
        Check.same("the one behind it stays", x.setting((what + 2) % 3), others[1]);
        return x.setting(what);
    }

    // ---- the calls of one object

    /** "An object is used for at most 512 calls after it has been made" */
    private static void callsOfOneObject() {
        StripeTasks x = Made.full();
        int calls = 120 + 1 + 2 + 14;
        int works = x.about(8);
        int ticks = x.about(1);
        calls += 2;
        int runs = 0;
        while (calls < 510) {
            Check.same("each run answers", x.run(60), 360);
            calls++;
            runs++;
        }
        Check.same("the ticks of all of them", x.about(1), ticks + 60 * runs);
        Check.same("the works of all of them", x.about(8), works + 360 * runs);
    }
}
