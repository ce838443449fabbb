import java.util.ArrayList;
import java.util.Arrays;
import java.util.HashMap;
import java.util.List;
import java.util.Map;
import java.util.Random;

/**
 * Long runs of calls, drawn from fixed seeds, beside a second telling of the document that is as
 * slow and as plain as can be: it steps day by day, sorts, and follows bases by recursion.
 */
public final class RandomRuns {
    private static final int UNKNOWN = -1, OUTSIDE = -2, STATE = -3, FULL = -4, NONE = -1000000;
    private static final int RUNS = 4000, CALLS = 512;
    private static final String[] CALL_NAMES = {"pass", "thing", "about", "draw", "allow", "move", "trial", "told",
        "error", "span", "settled", "due", "left", "chain", "unsettled", "judge", "stays", "seal", "sealed",
        "charge", "charged", "first", "count"};
    // How often each call comes, in the order of the names: those that change the state more often.
    private static final int[] WEIGHTS = {9, 8, 4, 14, 2, 3, 40, 5, 3, 3, 3, 3, 3, 4, 2, 5, 6, 8, 4, 8, 2, 7, 4};

    public static void main(String[] args) {
        long[] answers = new long[CALL_NAMES.length];
        for (int run = 0; run < RUNS; run++) {
            if (!runAlike(run, answers)) System.exit(1);
        }
        for (int c = 0; c < CALL_NAMES.length; c++) {
            if (answers[c] == 0) {
                System.out.println(CALL_NAMES[c] + " never answered without a refusal");
                System.exit(1);
            }
        }
        System.out.println(RUNS + " runs of " + CALLS + " calls are alike");
    }

    private static boolean runAlike(int run, long[] answers) {
        Random random = new Random(run);
        TrueWeights x = new TrueWeights();
        Model m = new Model();
        List<String> log = new ArrayList<>();
        int flavour = random.nextInt(4);
        if (flavour != 3) startLand(random, x, m, log);
        for (int n = 0; n < CALLS - 8; n++) {
            int call = pick(random);
            int[] a = arguments(random, call, m, flavour);
            long got = callReal(x, call, a);
            long want = callModel(m, call, a);
            log.add(CALL_NAMES[call] + Arrays.toString(a) + " " + got);
            if (want >= 0) answers[call]++;
            if (got != want) {
                for (String line : log) System.out.println(line);
                System.out.println("run " + run + ": the last call answered " + got + ", due is " + want);
                return false;
            }
        }
        return true;
    }

    private static void startLand(Random random, TrueWeights x, Model m, List<String> log) {
        int[] kinds = {0, 1, 1, 1, 2, 2, 3, 3};
        for (int kind : kinds) {
            int[] a = {kind, random.nextInt(101), 1 + random.nextInt(300), random.nextInt(4)};
            x.thing(a[0], a[1], a[2], a[3]);
            m.thing(a[0], a[1], a[2], a[3]);
            log.add("thing" + Arrays.toString(a));
        }
    }

    private static int pick(Random random) {
        int all = 0;
        for (int w : WEIGHTS) all += w;
        int at = random.nextInt(all);
        for (int c = 0; ; c++) {
            at -= WEIGHTS[c];
            if (at < 0) return c;
        }
    }

    private static int near(Random random, int least, int most) {
        switch (random.nextInt(12)) {
            case 0: return least;
            case 1: return most;
            case 2: return least - 1;
            case 3: return most + 1;
            case 4: return random.nextInt(30) == 0 ? random.nextInt() : least;
            default: return least + random.nextInt(most - least + 1);
        }
    }

    private static int thingNumber(Random random, Model m) {
        if (random.nextInt(40) == 0) return near(random, 0, Math.max(0, m.things.size() - 1));
        return m.things.isEmpty() ? 0 : random.nextInt(m.things.size());
    }

    private static int smallParts(Random random, int flavour) {
        if (random.nextInt(60) == 0) return near(random, -100000, 100000);
        int wide = flavour == 1 ? 20 : flavour == 2 ? 600 : 200;
        return random.nextInt(2 * wide + 1) - wide;
    }

    private static int[] arguments(Random random, int call, Model m, int flavour) {
        int thing = thingNumber(random, m);
        switch (CALL_NAMES[call]) {
            case "pass": return new int[] {random.nextInt(30) == 0 ? near(random, 1, 5000) : 1 + random.nextInt(flavour == 1 ? 5 : 60)};
            case "thing": return new int[] {near(random, 0, 3), near(random, 0, 100), near(random, 1, 400), near(random, 0, 9)};
            case "about": return new int[] {thing, near(random, 0, 7)};
            case "draw": return new int[] {random.nextInt(4) == 0 ? thing : m.anyOf(random, 3), smallParts(random, flavour)};
            case "allow": return new int[] {near(random, 1, 3), random.nextInt(2), near(random, 0, random.nextInt(5) == 0 ? 100000 : 400)};
            case "move": return new int[] {thing, near(random, 0, 9)};
            case "trial": return new int[] {thing, random.nextInt(9) == 0 ? thing : m.anyOf(random, random.nextInt(4) == 0 ? 0 : 1),
                smallParts(random, flavour), random.nextInt(40) == 0 ? near(random, 0, 100000) : random.nextInt(flavour == 2 ? 300 : 30)};
            case "told": return new int[] {near(random, 0, Math.max(0, m.trials.size() - 1)), near(random, 0, 7)};
            case "chain": return new int[] {thing, near(random, 0, 6)};
            case "unsettled": return new int[] {};
            case "seal": return new int[] {thing, random.nextInt(3) == 0 ? near(random, 1, 9999) : 1 + random.nextInt(80)};
            case "sealed": return new int[] {random.nextInt(9) == 0 ? near(random, 1, 9999) : 1 + random.nextInt(80)};
            case "charged": return new int[] {near(random, 0, 9)};
            case "first": return new int[] {near(random, 0, 20)};
            case "count": return new int[] {near(random, 0, 7)};
            default: return new int[] {thing};
        }
    }

    private static long callReal(TrueWeights x, int call, int[] a) {
        switch (CALL_NAMES[call]) {
            case "pass": return x.pass(a[0]);
            case "thing": return x.thing(a[0], a[1], a[2], a[3]);
            case "about": return x.about(a[0], a[1]);
            case "draw": return x.draw(a[0], a[1]);
            case "allow": return x.allow(a[0], a[1] == 1, a[2]);
            case "move": return x.move(a[0], a[1]);
            case "trial": return x.trial(a[0], a[1], a[2], a[3]);
            case "told": return x.told(a[0], a[1]);
            case "error": return x.error(a[0]);
            case "span": return x.span(a[0]);
            case "settled": return x.settled(a[0]);
            case "due": return x.due(a[0]);
            case "left": return x.left(a[0]);
            case "chain": return x.chain(a[0], a[1]);
            case "unsettled": return x.unsettled();
            case "judge": return x.judge(a[0]);
            case "stays": return x.stays(a[0]);
            case "seal": return x.seal(a[0], a[1]);
            case "sealed": return x.sealed(a[0]);
            case "charge": return x.charge(a[0]);
            case "charged": return x.charged(a[0]);
            case "first": return x.first(a[0]);
            default: return x.count(a[0]);
        }
    }

    private static long callModel(Model m, int call, int[] a) {
        switch (CALL_NAMES[call]) {
            case "pass": return m.pass(a[0]);
            case "thing": return m.thing(a[0], a[1], a[2], a[3]);
            case "about": return m.about(a[0], a[1]);
            case "draw": return m.draw(a[0], a[1]);
            case "allow": return m.allow(a[0], a[1] == 1, a[2]);
            case "move": return m.move(a[0], a[1]);
            case "trial": return m.trial(a[0], a[1], a[2], a[3]);
            case "told": return m.told(a[0], a[1]);
            case "unsettled": return m.unsettled();
            case "chain": return m.chain(a[0], a[1]);
            case "seal": return m.seal(a[0], a[1]);
            case "sealed": return m.sealed(a[0]);
            case "charged": return a[0] < 0 || a[0] > 9 ? UNKNOWN : m.charges.stream().filter(c -> c[1] == a[0]).mapToLong(c -> c[2]).sum();
            case "first": return m.first(a[0]);
            case "count": return m.count(a[0]);
            default: break;
        }
        if (!m.isThing(a[0])) return UNKNOWN;
        int t = a[0];
        boolean bare = m.kind(t) != 0 && m.trialsOf(t).isEmpty();
        switch (CALL_NAMES[call]) {
            case "error": return bare ? NONE : m.error(t);
            case "span": return bare ? NONE : m.span(t, m.day);
            case "settled": return m.isSettled(t) ? 1 : 0;
            case "due": return m.isDue(t, m.day) ? 1 : 0;
            case "left": return m.left(t);
            case "judge": return m.judge(t, m.day);
            case "stays": return m.stays(t);
            default: return m.charge(t);
        }
    }

    private static final class Model {
        int day = 0;
        final List<int[]> things = new ArrayList<>();
        final List<int[]> trials = new ArrayList<>();
        final List<Boolean> stands = new ArrayList<>();
        final Map<Integer, List<Integer>> draws = new HashMap<>();
        final Map<Integer, Integer> allowances = new HashMap<>();
        final Map<Integer, Integer> sealOf = new HashMap<>();
        final List<Integer> put = new ArrayList<>();
        /** Each a trial, an owner, how much. */
        final List<int[]> charges = new ArrayList<>();

        static boolean in(long v, long a, long b) {
            return a <= v && v <= b;
        }

        boolean isThing(int t) {
            return t >= 0 && t < things.size();
        }

        int kind(int t) {
            return things.get(t)[0];
        }

        int anyOf(Random random, int kind) {
            List<Integer> all = new ArrayList<>();
            for (int t = 0; t < things.size(); t++) if (kind(t) == kind) all.add(t);
            return all.isEmpty() ? 0 : all.get(random.nextInt(all.size()));
        }

        List<Integer> trialsOf(int t) {
            List<Integer> all = new ArrayList<>();
            for (int n = 0; n < trials.size(); n++) if (trials.get(n)[0] == t) all.add(n);
            return all;
        }

        int latest(int t) {
            List<Integer> all = trialsOf(t);
            return all.isEmpty() ? NONE : all.get(all.size() - 1);
        }

        int error(int t) {
            return kind(t) == 0 ? 0 : trials.get(latest(t))[3];
        }

        int span(int t, int onDay) {
            if (kind(t) == 0) return 0;
            int[] trial = trials.get(latest(t));
            int grown = things.get(t)[1] * (onDay - trial[2]);
            return trial[4] + grown / 100 + (grown % 100 == 0 ? 0 : 1);
        }

        boolean isSettled(int t) {
            return kind(t) == 0 || latest(t) != NONE && stands.get(latest(t));
        }

        boolean isDue(int t, int onDay) {
            if (kind(t) == 0) return false;
            return latest(t) == NONE || onDay - trials.get(latest(t))[2] > things.get(t)[2];
        }

        int left(int t) {
            if (kind(t) == 0) return NONE;
            int days = 0;
            while (!isDue(t, day + days)) days++;
            return days;
        }

        int allowance(int t) {
            boolean isNew = trialsOf(t).size() == 1;
            return allowances.getOrDefault(kind(t) * 2 + (isNew ? 1 : 0), isNew ? 100 : 200);
        }

        int judgeBy(int error, int span, int allowance) {
            int low = error - span;
            int high = error + span;
            if (Math.abs(low) <= allowance && Math.abs(high) <= allowance) return 1;
            return low > allowance || high < -allowance ? 3 : 2;
        }

        int judge(int t, int onDay) {
            if (kind(t) == 0 || !isSettled(t)) return 0;
            return judgeBy(error(t), span(t, onDay), allowance(t));
        }

        int stays(int t) {
            int now = judge(t, day);
            if (now == 0) return NONE;
            int error = error(t);
            int allowance = allowance(t);
            int[] trial = trials.get(latest(t));
            int drift = things.get(t)[1];
            int days = 0;
            while (days < 20000) {
                int grown = drift * (day + days + 1 - trial[2]);
                if (judgeBy(error, trial[4] + (int) Math.ceil(grown / 100.0), allowance) != now) return days;
                days++;
            }
            return days;
        }

        int pass(int n) {
            if (!in(n, 1, 5000)) return OUTSIDE;
            if (day + n > 20000) return FULL;
            return day += n;
        }

        int thing(int kind, int drift, int period, int owner) {
            if (!in(kind, 0, 3) || !in(drift, 0, 100) || !in(period, 1, 4000)) return OUTSIDE;
            if (!in(owner, 0, 9)) return UNKNOWN;
            if (things.size() == 40) return FULL;
            things.add(new int[] {kind, drift, period, owner});
            return things.size() - 1;
        }

        int about(int t, int what) {
            if (!isThing(t)) return UNKNOWN;
            if (in(what, 0, 3)) return things.get(t)[what];
            if (what == 4) return trialsOf(t).size();
            if (what == 5) return latest(t);
            if (what == 6) return sealOf.getOrDefault(t, NONE);
            if (what == 7) return (int) charges.stream().filter(c -> trials.get(c[0])[0] == t).count();
            return OUTSIDE;
        }

        int draw(int t, int v) {
            if (!isThing(t)) return UNKNOWN;
            if (!in(v, -100000, 100000)) return OUTSIDE;
            if (kind(t) != 3) return STATE;
            List<Integer> drawn = draws.computeIfAbsent(t, k -> new ArrayList<>());
            if (drawn.size() == 3) return FULL;
            drawn.add(v);
            return drawn.size();
        }

        int allow(int kind, boolean isNew, int v) {
            if (!in(kind, 1, 3) || !in(v, 0, 100000)) return OUTSIDE;
            Integer before = allowances.put(kind * 2 + (isNew ? 1 : 0), v);
            return before != null ? before : isNew ? 100 : 200;
        }

        int move(int t, int owner) {
            if (!isThing(t) || !in(owner, 0, 9)) return UNKNOWN;
            if (kind(t) < 2) return STATE;
            int before = things.get(t)[3];
            things.get(t)[3] = owner;
            sealOf.remove(t);
            return before;
        }

        int trial(int t, int by, int reading, int fineness) {
            if (!isThing(t) || !isThing(by)) return UNKNOWN;
            boolean pump = kind(t) == 3;
            if (!pump && !in(reading, -100000, 100000)) return OUTSIDE;
            if (!in(fineness, 0, 100000)) return OUTSIDE;
            List<Integer> drawn = draws.getOrDefault(t, new ArrayList<>());
            if (kind(t) == 0 || pump && drawn.size() < 3) return STATE;
            if (t == by || kind(by) > 1 || !isSettled(by) || isDue(by, day)) return STATE;
            if (trials.size() == 300) return FULL;
            int spread = 0;
            if (pump) {
                List<Integer> sorted = new ArrayList<>(drawn);
                sorted.sort(null);
                reading = sorted.get(1);
                spread = sorted.get(2) - sorted.get(0);
                draws.remove(t);
            }
            int error = error(by) + reading;
            int span = span(by, day) + fineness + spread;
            int ahead = latest(t);
            boolean wronged = false;
            if (ahead != NONE && isSettled(t)) {
                int low = Math.max(error - span, error(t) - span(t, day));
                int high = Math.min(error + span, error(t) + span(t, day));
                wronged = low > high;
            }
            int base = kind(by) == 0 ? NONE : latest(by);
            trials.add(new int[] {t, by, day, error, span, wronged ? 1 : 0, base});
            stands.add(true);
            if (wronged) {
                sealOf.remove(t);
                unsettle(ahead);
            }
            return trials.size() - 1;
        }

        void unsettle(int base) {
            for (int n = 0; n < trials.size(); n++) {
                if (trials.get(n)[6] == base && stands.get(n)) {
                    stands.set(n, false);
                    unsettle(n);
                }
            }
        }

        int told(int n, int what) {
            if (n < 0 || n >= trials.size()) return UNKNOWN;
            if (in(what, 0, 4)) return trials.get(n)[what];
            if (what == 5) return stands.get(n) ? 1 : 0;
            if (what == 6) return trials.get(n)[5];
            return what == 7 ? trials.get(n)[6] : OUTSIDE;
        }

        int chain(int t, int i) {
            if (!isThing(t)) return UNKNOWN;
            List<Integer> links = new ArrayList<>();
            for (int n = latest(t); n != NONE; n = trials.get(n)[6]) links.add(n);
            return i >= 0 && i < links.size() ? links.get(i) : NONE;
        }

        int unsettled() {
            return (int) stands.stream().filter(s -> !s).count();
        }

        int seal(int t, int number) {
            if (!isThing(t)) return UNKNOWN;
            if (!in(number, 1, 9999)) return OUTSIDE;
            if (kind(t) < 2 || judge(t, day) != 1 || put.contains(number)) return STATE;
            put.add(number);
            sealOf.put(t, number);
            return 1;
        }

        int sealed(int number) {
            if (!in(number, 1, 9999)) return OUTSIDE;
            for (Map.Entry<Integer, Integer> e : sealOf.entrySet()) if (e.getValue() == number) return e.getKey();
            return NONE;
        }

        int charge(int t) {
            int trial = latest(t);
            if (kind(t) < 2 || judge(t, day) != 3 || trials.get(trial)[2] != day) return STATE;
            if (charges.stream().anyMatch(c -> c[0] == trial)) return STATE;
            int low = error(t) - span(t, day);
            int high = error(t) + span(t, day);
            int beyond = low > 0 ? low - allowance(t) : -high - allowance(t);
            int owner = things.get(t)[3];
            int times = Math.min(5, 1 + (int) charges.stream().filter(c -> c[1] == owner).count());
            charges.add(new int[] {trial, owner, 10 * beyond * times});
            return 10 * beyond * times;
        }

        int group(int t) {
            if (latest(t) == NONE) return 0;
            if (!isSettled(t)) return 1;
            return isDue(t, day) ? 2 : 3;
        }

        int excess(int t) {
            return latest(t) == NONE ? 0 : Math.abs(error(t)) + span(t, day) - allowance(t);
        }

        int first(int i) {
            List<Integer> all = new ArrayList<>();
            for (int t = 0; t < things.size(); t++) if (kind(t) >= 2) all.add(t);
            all.sort((a, b) -> {
                if (group(a) != group(b)) return group(a) - group(b);
                if (excess(a) != excess(b)) return excess(b) - excess(a);
                return a - b;
            });
            return i >= 0 && i < all.size() ? all.get(i) : NONE;
        }

        int count(int what) {
            if (what == 0) return day;
            if (what == 1) return things.size();
            if (what == 2) return trials.size();
            if (what == 7) return charges.size();
            if (!in(what, 3, 6)) return OUTSIDE;
            int found = 0;
            for (int t = 0; t < things.size(); t++) {
                if (what == 3 ? isDue(t, day) : kind(t) >= 2 && judge(t, day) == what - 3) found++;
            }
            return found;
        }
    }
}
