import java.util.ArrayList;
import java.util.HashMap;
import java.util.List;
import java.util.Map;
import java.util.regex.Matcher;
import java.util.regex.Pattern;

/**
 * A second reading of the document, for ModelTest: it keeps the stripes instead of the tasks, writes down what each
 * task did, copies freely and throws where the document says so. It shares nothing with the program.
 */
final class Model {
    private enum Kind { LOADING, MOVE, HANDING_OVER }

    private static final Pattern ARRAY = Pattern.compile("A(?:"
            + "t[1-6](?:[0-8]\\d\\d|9[0-8]\\d|99[0-6])|l[0-5](?:0\\d|1[01])|[bg](?:0\\d|1[01])|s[0-5]"
            + "|w(?:0[1-9]|[1-5]\\d|60))*");
    private static final Pattern COMMAND = Pattern.compile("([a-z])(\\d+)");

    private static final class World {
        final List<Integer> widths = new ArrayList<>();
        final List<Integer> values = new ArrayList<>();
        final List<Integer> savedValues = new ArrayList<>();
        /** A letter for all that happened to a task: w a work, s a saving, x a falling back. */
        final List<String> diaries = new ArrayList<>();
        final int[] taker = new int[12];
        final boolean[] bad = new boolean[12];
        final int[] settings = {3, 2, 10};
        int ticks;
        int done;
        int gone;
        Kind kind;
        int jobTask;
        int jobStripe;
        int jobTicks;

        World() {
            java.util.Arrays.fill(taker, -1);
        }

        World copy() {
            World other = new World();
            other.widths.addAll(widths);
            other.values.addAll(values);
            other.savedValues.addAll(savedValues);
            other.diaries.addAll(diaries);
            System.arraycopy(taker, 0, other.taker, 0, 12);
            System.arraycopy(bad, 0, other.bad, 0, 12);
            System.arraycopy(settings, 0, other.settings, 0, 3);
            other.ticks = ticks;
            other.done = done;
            other.gone = gone;
            other.kind = kind;
            other.jobTask = jobTask;
            other.jobStripe = jobStripe;
            other.jobTicks = jobTicks;
            return other;
        }
    }

    private World world = new World();
    private String text = "";
    private final List<World> remembered = new ArrayList<>();
    private final Map<Integer, World> slots = new HashMap<>();

    private static void index(boolean exists) {
        if (!exists) {
            throw new IndexOutOfBoundsException();
        }
    }

    private static void argument(boolean inRange) {
        if (!inRange) {
            throw new IllegalArgumentException();
        }
    }

    private static void state(boolean possible) {
        if (!possible) {
            throw new IllegalStateException();
        }
    }

    private void remember() {
        remembered.add(world.copy());
        if (remembered.size() > 14) {
            remembered.remove(0);
        }
    }

    int append(int c) {
        argument(c >= 0 && c < 256);
        state(text.length() < 120);
        text += (char) c;
        return text.length();
    }

    int clearText() {
        int length = text.length();
        text = "";
        return length;
    }

    int errorPosition() {
        for (int end = 1; end <= text.length(); end++) {
            Matcher begin = ARRAY.matcher(text.substring(0, end));
            if (!begin.matches() && !begin.hitEnd()) {
                return end - 1;
            }
        }
        return ARRAY.matcher(text).matches() ? -1 : text.length();
    }

    int load() {
        state(ARRAY.matcher(text).matches());
        world = new World();
        slots.clear();
        int leftOut = 0;
        Matcher command = COMMAND.matcher(text);
        while (command.find()) {
            try {
                obey(command.group(1), command.group(2));
            } catch (IndexOutOfBoundsException | IllegalStateException | IllegalArgumentException e) {
                leftOut++;
            }
        }
        remembered.clear();
        return leftOut;
    }

    private void obey(String letter, String digits) {
        int first = Integer.parseInt(digits.substring(0, 1));
        int all = Integer.parseInt(digits);
        switch (letter) {
            case "t" -> add(first, Integer.parseInt(digits.substring(1)));
            case "l" -> bring(first, Integer.parseInt(digits.substring(1)));
            case "b" -> turnBad(all);
            case "g" -> mend(all);
            case "s" -> stop(all);
            default -> run(all);
        }
    }

    private boolean broughtTo(int s) {
        return world.kind != null && s >= world.jobStripe && s < world.jobStripe + world.widths.get(world.jobTask);
    }

    private boolean free(int s) {
        return s >= 0 && s < 12 && !world.bad[s] && world.taker[s] < 0 && !broughtTo(s);
    }

    /** The gaps, as a first stripe and a length each. */
    private List<int[]> gaps() {
        List<int[]> gaps = new ArrayList<>();
        for (int s = 0; s < 12; s++) {
            if (free(s) && !free(s - 1)) {
                gaps.add(new int[] {s, 0});
            }
            if (free(s)) {
                gaps.get(gaps.size() - 1)[1]++;
            }
        }
        return gaps;
    }

    private int statusOf(int t) {
        boolean here = false;
        for (int taker : world.taker) {
            here |= taker == t;
        }
        if (!here) {
            return 0;
        }
        if (world.kind == null || world.jobTask != t || world.kind == Kind.MOVE) {
            return 2;
        }
        return world.kind == Kind.LOADING ? 1 : 3;
    }

    private int worksOf(int t) {
        return world.diaries.get(t).replace("s", "").replace("x", "").length();
    }

    private int allWorks() {
        int works = 0;
        for (int t = 0; t < world.widths.size(); t++) {
            works += worksOf(t);
        }
        return works;
    }

    int about(int what) {
        argument(what >= 0 && what <= 8);
        int running = 0;
        for (int t = 0; t < world.widths.size(); t++) {
            running += statusOf(t) == 2 ? 1 : 0;
        }
        int free = 0;
        int longest = 0;
        for (int[] gap : gaps()) {
            free += gap[1];
            longest = Math.max(longest, gap[1]);
        }
        int bad = 0;
        for (boolean one : world.bad) {
            bad += one ? 1 : 0;
        }
        int[] all = {world.widths.size(), world.ticks, running, free, longest, bad, world.done, world.gone, allWorks()};
        return all[what];
    }

    private void exists(int t) {
        index(t >= 0 && t < world.widths.size());
    }

    private static void stripeExists(int s) {
        index(s >= 0 && s < 12);
    }

    private int firstOf(int t) {
        for (int s = 0; s < 12; s++) {
            if (world.taker[s] == t) {
                return s;
            }
        }
        return -1;
    }

    int task(int t, int what) {
        exists(t);
        return switch (what) {
            case 0 -> world.widths.get(t);
            case 1 -> world.values.get(t);
            case 2 -> world.savedValues.get(t);
            case 3 -> worksOf(t);
            case 4 -> statusOf(t);
            case 5 -> firstOf(t);
            default -> throw new IllegalArgumentException();
        };
    }

    int stripe(int s, int what) {
        stripeExists(s);
        argument(what >= 0 && what <= 2);
        int mover = broughtTo(s) && world.kind != Kind.LOADING ? world.jobTask : -1;
        return what == 0 ? world.taker[s] : what == 1 ? mover : world.bad[s] ? 1 : 0;
    }

    int job(int what) {
        argument(what >= 0 && what <= 2);
        if (world.kind == null) {
            return -1;
        }
        return new int[] {world.jobTask, world.jobStripe, world.jobTicks}[what];
    }

    int setting(int what) {
        argument(what >= 0 && what <= 2);
        return world.settings[what];
    }

    int add(int width, int value) {
        argument(width >= 1 && width <= 6 && value >= 0 && value <= 996);
        state(world.widths.size() < 6);
        remember();
        world.widths.add(width);
        world.values.add(value);
        world.savedValues.add(value);
        world.diaries.add("");
        return world.widths.size() - 1;
    }

    int bring(int t, int s) {
        exists(t);
        stripeExists(s);
        int width = world.widths.get(t);
        state(world.kind == null && s + width <= 12);
        boolean own = false;
        for (int i = s; i < s + width; i++) {
            state(!world.bad[i] && (world.taker[i] == -1 || world.taker[i] == t));
            own |= world.taker[i] == t;
        }
        boolean loading = statusOf(t) == 0;
        remember();
        int stripesTicks = world.settings[0] * width;
        world.jobTask = t;
        world.jobStripe = s;
        if (loading) {
            world.kind = Kind.LOADING;
            world.jobTicks = stripesTicks;
            take(t, s);
            return stripesTicks;
        }
        world.kind = own ? Kind.HANDING_OVER : Kind.MOVE;
        world.jobTicks = own ? stripesTicks + world.settings[1] : stripesTicks;
        return stripesTicks + world.settings[1];
    }

    private void take(int t, int s) {
        leave(t);
        for (int i = s; i < s + world.widths.get(t); i++) {
            world.taker[i] = t;
        }
    }

    private void leave(int t) {
        for (int i = 0; i < 12; i++) {
            if (world.taker[i] == t) {
                world.taker[i] = -1;
            }
        }
    }

    private void note(int t, String letter) {
        world.diaries.set(t, world.diaries.get(t) + letter);
    }

    int stop(int t) {
        exists(t);
        state(statusOf(t) == 2 && (world.kind == null || world.jobTask != t));
        remember();
        leave(t);
        world.savedValues.set(t, world.values.get(t));
        note(t, "s");
        return world.values.get(t);
    }

    private int offBy(int s) {
        if (world.taker[s] == -1 && broughtTo(s) && world.kind == Kind.HANDING_OVER) {
            return world.jobTask;
        }
        return world.taker[s];
    }

    int turnBad(int s) {
        stripeExists(s);
        remember();
        int off = offBy(s);
        if (world.kind != null && (world.jobTask == off || broughtTo(s))) {
            world.kind = null;
            world.gone++;
        }
        if (off >= 0) {
            leave(off);
            world.values.set(off, world.savedValues.get(off));
            note(off, "x");
        }
        world.bad[s] = true;
        return off;
    }

    int mend(int s) {
        stripeExists(s);
        remember();
        int before = world.bad[s] ? 1 : 0;
        world.bad[s] = false;
        return before;
    }

    int run(int n) {
        argument(n >= 1 && n <= 60);
        remember();
        int before = allWorks();
        for (int i = 0; i < n; i++) {
            tick();
        }
        return allWorks() - before;
    }

    private void jobDone() {
        take(world.jobTask, world.jobStripe);
        world.kind = null;
        world.done++;
    }

    private void tick() {
        if (world.kind != null) {
            world.jobTicks--;
            if (world.jobTicks == 0) {
                if (world.kind == Kind.MOVE && world.settings[1] > 0) {
                    world.kind = Kind.HANDING_OVER;
                    world.jobTicks = world.settings[1];
                } else {
                    jobDone();
                }
            }
        }
        for (int t = 0; t < world.widths.size(); t++) {
            if (statusOf(t) == 2) {
                world.values.set(t, (31 * world.values.get(t) + 7 * world.widths.get(t) + 1) % 997);
                note(t, "w");
            }
        }
        if ((world.ticks + 1) % world.settings[2] == 0) {
            for (int t = 0; t < world.widths.size(); t++) {
                if (statusOf(t) == 2) {
                    world.savedValues.set(t, world.values.get(t));
                    note(t, "s");
                }
            }
        }
        world.ticks++;
    }

    int set(int what, int v) {
        argument(what >= 0 && what <= 2);
        argument(what == 0 ? v >= 1 && v <= 9 : what == 1 ? v >= 0 && v <= 20 : v >= 1 && v <= 99);
        remember();
        int before = world.settings[what];
        world.settings[what] = v;
        return before;
    }

    int undo() {
        state(!remembered.isEmpty());
        world = remembered.remove(remembered.size() - 1);
        return remembered.size();
    }

    int bestGap(int width) {
        argument(width >= 1 && width <= 6);
        int[] best = {-1, 99};
        for (int[] gap : gaps()) {
            if (gap[1] >= width && gap[1] < best[1]) {
                best = gap;
            }
        }
        return best[0];
    }

    int window(int width, int what) {
        argument(width >= 1 && width <= 12 && what >= 0 && what <= 1);
        int[] best = {-1, -1};
        for (int first = 12 - width; first >= 0; first--) {
            int together = 0;
            boolean possible = true;
            java.util.Set<Integer> seen = new java.util.HashSet<>();
            for (int s = first; s < first + width; s++) {
                possible &= stripe(s, 2) == 0 && stripe(s, 1) == -1;
                if (world.taker[s] >= 0 && seen.add(world.taker[s])) {
                    together += world.widths.get(world.taker[s]);
                }
            }
            if (possible && (best[0] == -1 || together <= best[1])) {
                best = new int[] {first, together};
            }
        }
        return best[what];
    }

    private Model copy() {
        Model other = new Model();
        other.world = world.copy();
        return other;
    }

    int idleIn() {
        Model other = copy();
        int ticks = 0;
        while (other.world.kind != null) {
            other.tick();
            ticks++;
        }
        return ticks;
    }

    int coming(int t, int n, int what) {
        exists(t);
        argument(n >= 1 && n <= 200 && what >= 0 && what <= 2);
        Model other = copy();
        for (int i = 0; i < n; i++) {
            other.tick();
        }
        return what == 2 ? other.task(t, 3) - task(t, 3) : other.task(t, what + 1);
    }

    int lost(int s) {
        stripeExists(s);
        int off = offBy(s);
        if (off < 0) {
            return 0;
        }
        String diary = world.diaries.get(off);
        return diary.length() - 1 - Math.max(diary.lastIndexOf('s'), diary.lastIndexOf('x'));
    }

    int runScript(int n, long script) {
        argument(n >= 1 && n <= 3 && script >= 0 && Long.toString(script).length() <= 5 * n);
        String digits = String.format("%0" + 5 * n + "d", script);
        Model other = copy();
        for (int i = 0; i < n; i++) {
            boolean good;
            try {
                good = other.group(digits.substring(5 * i, 5 * i + 5));
            } catch (IndexOutOfBoundsException | IllegalStateException | IllegalArgumentException e) {
                good = false;
            }
            if (!good) {
                return i;
            }
        }
        return -1;
    }

    private boolean group(String d) {
        int t = d.charAt(1) - '0';
        int last = d.charAt(4) - '0';
        int inFront = Integer.parseInt(d.substring(1, 3));
        int between = Integer.parseInt(d.substring(2, 4));
        int behind = Integer.parseInt(d.substring(3));
        if (d.matches("1...0")) {
            return bring(t, between) > 0;
        } else if (d.matches("200..")) {
            return run(behind) >= 0;
        } else if (d.matches("3..00")) {
            return turnBad(inFront) >= -1;
        } else if (d.matches("4..00")) {
            return mend(inFront) >= 0;
        } else if (d.matches("5.000")) {
            return stop(t) >= 0;
        } else if (d.matches("6.00.")) {
            return task(t, 4) == last;
        } else if (d.matches("7....")) {
            return task(t, 1) == Integer.parseInt(d.substring(2));
        } else if (d.matches("8..09")) {
            return stripe(inFront, 0) == -1;
        } else if (d.matches("8..0.")) {
            exists(last);
            return stripe(inFront, 0) == last;
        }
        return d.matches("900..") && idleIn() <= behind;
    }

    int simulate(long seed, int m) {
        argument(m >= 1 && m <= 60);
        Model other = copy();
        long x = seed;
        for (int i = 0; i < m; i++) {
            x = x * 6364136223846793005L + 1442695040888963407L;
            int r = (int) (x >>> 33);
            try {
                other.turn(r % 8, r / 8);
            } catch (IndexOutOfBoundsException | IllegalStateException | IllegalArgumentException e) {
                continue;
            }
        }
        return 10000 * other.about(2) + Math.min(9999, other.about(8) - about(8));
    }

    private void turn(int kind, int q) {
        if (kind == 0) {
            add(1 + q % 6, q / 8 % 997);
        } else if (kind <= 2) {
            bring(q % 6, q / 8 % 12);
        } else if (kind == 3 && q / 16 % 4 == 0) {
            turnBad(q % 12);
        } else if (kind == 3) {
            mend(q % 12);
        } else if (kind == 4) {
            stop(q % 6);
        } else {
            run(1 + q % 20);
        }
    }

    int save(int slot) {
        index(slot == 0 || slot == 1);
        slots.put(slot, world.copy());
        return world.ticks;
    }

    int restore(int slot) {
        index(slot == 0 || slot == 1);
        state(slots.containsKey(slot));
        world = slots.get(slot).copy();
        remembered.clear();
        return world.ticks;
    }
}
