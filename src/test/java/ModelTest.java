import java.util.ArrayList;
import java.util.List;
import java.util.Map;
import java.util.TreeMap;

/** Long mixed runs of all calls, with right and wrong arguments, against Model: promises 1 to 27 together. */
final class ModelTest {
    private interface OnProgram {
        int on(StripeTasks x);
    }

    private interface OnModel {
        int on(Model x);
    }

    private static final int RUNS = 600;
    private static final int CALLS = 500;

    /** Numbers from a fixed row, so that each run of the test is the same. */
    private static final class Numbers {
        private long x;

        Numbers(long seed) {
            x = seed * 0x9E3779B97F4A7C15L + 1;
        }

        int below(int end) {
            x = x * 6364136223846793005L + 1442695040888963407L;
            return (int) ((x >>> 33) % end);
        }

        boolean once(int times) {
            return below(times) == 0;
        }

        /** Mostly a number from least to most, at times one beside them or far away. */
        int about(int least, int most) {
            if (once(25)) {
                int[] wrong = {least - 1, most + 1, -1, Integer.MIN_VALUE, Integer.MAX_VALUE};
                return wrong[below(wrong.length)];
            }
            return least + below(most - least + 1);
        }

        long seed() {
            return (long) below(Integer.MAX_VALUE) << 32 ^ below(Integer.MAX_VALUE);
        }
    }

    private static final Map<String, Integer> ANSWERS = new TreeMap<>();

    private final Numbers numbers;
    private final StripeTasks program = new StripeTasks();
    private final Model model = new Model();
    private final List<String> calls = new ArrayList<>();
    private boolean agreed = true;

    private ModelTest(long seed) {
        numbers = new Numbers(seed);
    }

    public static void main(String[] args) {
        int runs = args.length > 0 ? Integer.parseInt(args[0]) : RUNS;
        for (int run = 1; run <= runs; run++) {
            new ModelTest(run).run();
        }
        if (args.length > 1) {
            System.out.println(ANSWERS);
        }
        Check.finish("ModelTest");
    }

    private void run() {
        while (agreed && calls.size() < CALLS) {
            if (numbers.once(60)) {
                text();
            } else if (numbers.below(100) < 45) {
                action();
            } else {
                question();
            }
        }
        if (!agreed) {
            Check.fail("run: " + calls);
        }
    }

    private static String answer(java.util.function.IntSupplier call) {
        try {
            return Integer.toString(call.getAsInt());
        } catch (RuntimeException e) {
            return e.getClass().getSimpleName();
        }
    }

    private void both(String call, OnProgram program, OnModel model) {
        if (!agreed || calls.size() >= CALLS) {
            return;
        }
        String got = answer(() -> program.on(this.program));
        String due = answer(() -> model.on(this.model));
        calls.add(call + " = " + due);
        String kind = call.substring(0, call.indexOf('(')) + (due.length() > 12 ? " " + due : "");
        ANSWERS.merge(kind, 1, Integer::sum);
        if (!got.equals(due)) {
            agreed = false;
            Check.fail(call + " answered " + got + ", due is " + due);
        }
    }

    private String command() {
        return switch (numbers.below(8)) {
            case 0, 1 -> String.format("t%d%03d", 1 + numbers.below(4), numbers.below(997));
            case 2, 3 -> String.format("l%d%02d", numbers.below(4), numbers.below(12));
            case 4 -> String.format("b%02d", numbers.below(12));
            case 5 -> String.format("g%02d", numbers.below(12));
            case 6 -> String.format("s%d", numbers.below(4));
            default -> String.format("w%02d", 1 + numbers.below(60));
        };
    }

    private void text() {
        both("clearText()", StripeTasks::clearText, Model::clearText);
        StringBuilder text = new StringBuilder("A");
        int commands = numbers.below(numbers.once(4) ? 40 : 12);
        for (int i = 0; i < commands; i++) {
            text.append(command());
        }
        if (numbers.once(4)) {
            text.setCharAt(numbers.below(text.length()), "Atlbgsw0123456789 x".charAt(numbers.below(19)));
        }
        if (numbers.once(4)) {
            text.setLength(numbers.below(text.length() + 1));
        }
        for (int i = 0; i < text.length(); i++) {
            int c = numbers.once(400) ? numbers.about(0, 255) : text.charAt(i);
            both("append(" + c + ")", x -> x.append(c), x -> x.append(c));
        }
        both("errorPosition()", StripeTasks::errorPosition, Model::errorPosition);
        both("load()", StripeTasks::load, Model::load);
    }

    private void action() {
        switch (numbers.below(20)) {
            case 0 -> {
                int width = numbers.once(3) ? numbers.about(1, 6) : 1 + numbers.below(3);
                int value = numbers.about(0, 996);
                both("add(" + width + ", " + value + ")", x -> x.add(width, value), x -> x.add(width, value));
            }
            case 1, 2, 3, 4, 5, 6 -> bring();
            case 7 -> {
                int t = numbers.about(0, 5);
                both("stop(" + t + ")", x -> x.stop(t), x -> x.stop(t));
            }
            case 8 -> {
                int s = numbers.about(0, 11);
                both("turnBad(" + s + ")", x -> x.turnBad(s), x -> x.turnBad(s));
            }
            case 9, 10 -> {
                int s = numbers.about(0, 11);
                both("mend(" + s + ")", x -> x.mend(s), x -> x.mend(s));
            }
            case 11, 12, 13, 14, 15 -> {
                int n = numbers.once(5) ? numbers.about(1, 60) : 1 + numbers.below(12);
                both("run(" + n + ")", x -> x.run(n), x -> x.run(n));
            }
            case 16 -> {
                int what = numbers.about(0, 2);
                int v = numbers.about(0, what == 0 ? 10 : what == 1 ? 21 : 100);
                both("set(" + what + ", " + v + ")", x -> x.set(what, v), x -> x.set(what, v));
            }
            case 17, 18 -> {
                for (int i = numbers.once(8) ? 20 : 1 + numbers.below(3); i > 0; i--) {
                    both("undo()", StripeTasks::undo, Model::undo);
                }
            }
            default -> {
                int slot = numbers.about(0, 1);
                if (numbers.once(3)) {
                    both("restore(" + slot + ")", x -> x.restore(slot), x -> x.restore(slot));
                } else {
                    both("save(" + slot + ")", x -> x.save(slot), x -> x.save(slot));
                }
            }
        }
    }

    private void bring() {
        int t = numbers.about(0, 5);
        int s = numbers.about(0, 11);
        both("bring(" + t + ", " + s + ")", x -> x.bring(t, s), x -> x.bring(t, s));
    }

    private void question() {
        int t = numbers.about(0, 5);
        int s = numbers.about(0, 11);
        int what = numbers.about(0, 2);
        switch (numbers.below(13)) {
            case 0 -> {
                int asked = numbers.about(0, 8);
                both("about(" + asked + ")", x -> x.about(asked), x -> x.about(asked));
            }
            case 1, 2 -> {
                int asked = numbers.about(0, 5);
                both("task(" + t + ", " + asked + ")", x -> x.task(t, asked), x -> x.task(t, asked));
            }
            case 3, 4 -> both("stripe(" + s + ", " + what + ")", x -> x.stripe(s, what), x -> x.stripe(s, what));
            case 5 -> both("job(" + what + ")", x -> x.job(what), x -> x.job(what));
            case 6 -> both("setting(" + what + ")", x -> x.setting(what), x -> x.setting(what));
            case 7 -> {
                int width = numbers.about(1, 6);
                both("bestGap(" + width + ")", x -> x.bestGap(width), x -> x.bestGap(width));
            }
            case 8 -> {
                int width = numbers.about(1, 12);
                int asked = numbers.about(0, 1);
                both("window(" + width + ", " + asked + ")", x -> x.window(width, asked), x -> x.window(width, asked));
            }
            case 9 -> {
                both("idleIn()", StripeTasks::idleIn, Model::idleIn);
                both("lost(" + s + ")", x -> x.lost(s), x -> x.lost(s));
            }
            case 10 -> {
                int n = numbers.about(1, 200);
                both("coming(" + t + ", " + n + ", " + what + ")", x -> x.coming(t, n, what), x -> x.coming(t, n, what));
            }
            case 11 -> {
                int m = numbers.about(1, 60);
                long seed = numbers.seed();
                both("simulate(" + seed + ", " + m + ")", x -> x.simulate(seed, m), x -> x.simulate(seed, m));
            }
            default -> script();
        }
    }

    private int group() {
        int t = numbers.below(numbers.once(10) ? 10 : 4);
        int s = numbers.below(numbers.once(10) ? 100 : 12);
        int n = numbers.below(numbers.once(4) ? 100 : 30);
        int group = switch (numbers.below(10)) {
            case 0, 1 -> 10000 + 1000 * t + 10 * s;
            case 2 -> 20000 + n;
            case 3 -> 30000 + 100 * s;
            case 4 -> 40000 + 100 * s;
            case 5 -> 50000 + 1000 * t;
            case 6 -> 60000 + 1000 * t + numbers.below(5);
            case 7 -> 70000 + 1000 * t + valueOf(t);
            case 8 -> 80000 + 100 * s + (numbers.once(2) ? 9 : t);
            default -> 90000 + n;
        };
        return numbers.once(12) ? numbers.below(100000) : group;
    }

    private int valueOf(int t) {
        return t < model.about(0) && !numbers.once(5) ? model.task(t, 1) : numbers.below(1000);
    }

    private void script() {
        int n = numbers.about(1, 3);
        long script = 0;
        for (int i = 0; i < (n < 1 || n > 3 ? 1 : n); i++) {
            script = script * 100000 + group();
        }
        if (numbers.once(30)) {
            long[] wrong = {-1, 100000, 10000000000L, 1000000000000000L, Long.MAX_VALUE, Long.MIN_VALUE};
            script = wrong[numbers.below(wrong.length)];
        }
        long told = script;
        both("runScript(" + n + ", " + told + ")", x -> x.runScript(n, told), x -> x.runScript(n, told));
    }
}
