import java.lang.annotation.Retention;
import java.lang.annotation.RetentionPolicy;
import java.lang.reflect.InvocationTargetException;
import java.lang.reflect.Method;
import java.util.ArrayList;
import java.util.Arrays;
import java.util.Comparator;
import java.util.List;
import java.util.TreeSet;

/**
 * One test for each sentence of the document that names a boundary case: too small, too large,
 * empty, full, a wrap-around, a refused call. Each test bears the words that it stands for.
 */
public final class BoundaryTests {
    /** The promises that a test stands for (0: 'Terms'), and the document's words. */
    @Retention(RetentionPolicy.RUNTIME)
    @interface Says {
        int[] promise();
        String words();
    }

    /** A call that one of two like objects gets, and the other does not. */
    private interface Call {
        long on(TrueWeights x);
    }

    private static final int UNKNOWN = -1, OUTSIDE = -2, STATE = -3, FULL = -4, NONE = -1000000;
    private static final int ROOT = 0, STANDARD = 1, SCALE = 2, PUMP = 3;
    private static final int GOOD = 1, NOT_SURE = 2, WRONG = 3;
    private static final int LEAST = Integer.MIN_VALUE, MOST = Integer.MAX_VALUE;
    private static final int LAST_PROMISE = 24;

    private static final List<String> wrong = new ArrayList<>();
    private static String at = "";

    public static void main(String[] args) throws IllegalAccessException {
        TreeSet<Integer> promises = new TreeSet<>();
        Method[] methods = BoundaryTests.class.getDeclaredMethods();
        Arrays.sort(methods, Comparator.comparing(Method::getName));
        int tests = 0;
        for (Method m : methods) {
            Says says = m.getAnnotation(Says.class);
            if (says == null) continue;
            for (int p : says.promise()) promises.add(p);
            at = m.getName() + " (" + says.words() + ")";
            run(m);
            tests++;
        }
        for (int p = 0; p <= LAST_PROMISE; p++) if (!promises.contains(p)) wrong.add("promise " + p + " has no test");
        for (String line : wrong) System.out.println(line);
        System.out.println(wrong.isEmpty() ? tests + " boundary cases are as due" : wrong.size() + " answers are not as due");
        if (!wrong.isEmpty()) System.exit(1);
    }

    private static void run(Method m) throws IllegalAccessException {
        try {
            m.invoke(null);
        } catch (InvocationTargetException e) {
            wrong.add(at + ": " + e.getCause());
        }
    }

    private static void due(String call, long got, long want) {
        if (got != want) wrong.add(at + ": " + call + " answered " + got + ", due is " + want);
    }

    /** Thing 0 a root, 1 a standard, 2 a scale, 3 a pump, none of which drifts. */
    private static TrueWeights land() {
        TrueWeights x = new TrueWeights();
        x.thing(ROOT, 0, 1, 0);
        x.thing(STANDARD, 0, 4000, 1);
        x.thing(SCALE, 0, 4000, 2);
        x.thing(PUMP, 0, 4000, 3);
        return x;
    }

    /** Thing 0 a root, 1 of this kind. */
    private static TrueWeights landOf(int kind, int drift, int period) {
        TrueWeights x = new TrueWeights();
        x.thing(ROOT, 0, 1, 0);
        x.thing(kind, drift, period, 0);
        return x;
    }

    /** Thing 0 a root, 1 a standard, 2 and 3 scales; scale 2, tried by the standard, is not settled. */
    private static TrueWeights shakenLand() {
        TrueWeights x = new TrueWeights();
        x.thing(ROOT, 0, 1, 0);
        x.thing(STANDARD, 0, 4000, 0);
        x.thing(SCALE, 0, 4000, 0);
        x.thing(SCALE, 0, 4000, 0);
        x.trial(1, 0, 0, 0);
        x.trial(2, 1, 500, 0);
        x.trial(1, 0, 1, 0);
        return x;
    }

    private static TrueWeights lastDay() {
        TrueWeights x = land();
        for (int n = 0; n < 4; n++) x.pass(5000);
        return x;
    }

    private static TrueWeights allThings() {
        TrueWeights x = land();
        for (int n = 4; n < 40; n++) x.thing(SCALE, 0, 4000, n % 10);
        return x;
    }

    private static TrueWeights allTrials() {
        TrueWeights x = land();
        for (int n = 0; n < 300; n++) x.trial(2, 0, 0, 0);
        return x;
    }

    private static void draws(TrueWeights x, int pump, int a, int b, int c) {
        x.draw(pump, a);
        x.draw(pump, b);
        x.draw(pump, c);
    }

    private static int tryPump(TrueWeights x, int pump, int v) {
        draws(x, pump, v, v, v);
        return x.trial(pump, 0, 0, 0);
    }

    // ---- Terms: refusals

    @Says(promise = 0, words = "REFUSALS: UNKNOWN, OUTSIDE, STATE, FULL; NONE is -1000000")
    private static void constants() {
        due("UNKNOWN", TrueWeights.UNKNOWN, -1);
        due("OUTSIDE", TrueWeights.OUTSIDE, -2);
        due("STATE", TrueWeights.STATE, -3);
        due("FULL", TrueWeights.FULL, -4);
        due("NONE", TrueWeights.NONE, -1000000);
    }

    @Says(promise = {0, 2}, words = "of several the first: OUTSIDE; FULL")
    private static void orderOfPass() {
        for (int n : new int[] {0, -1, 5001, LEAST, MOST}) due("pass(" + n + ")", lastDay().pass(n), OUTSIDE);
    }

    @Says(promise = {0, 3}, words = "of several the first: OUTSIDE: kind, drift, period; UNKNOWN: OWNER; FULL")
    private static void orderOfThing() {
        for (TrueWeights x : new TrueWeights[] {new TrueWeights(), allThings()}) {
            due("kind and owner", x.thing(4, 0, 1, 10), OUTSIDE);
            due("drift and owner", x.thing(2, 101, 1, 10), OUTSIDE);
            due("period and owner", x.thing(2, 0, 0, -1), OUTSIDE);
            due("owner", x.thing(2, 0, 1, 10), UNKNOWN);
        }
        TrueWeights full = allThings();
        due("kind and full", full.thing(-1, 0, 1, 0), OUTSIDE);
        due("drift and full", full.thing(0, -1, 1, 0), OUTSIDE);
        due("period and full", full.thing(0, 0, 4001, 0), OUTSIDE);
        due("owner and full", full.thing(0, 0, 1, -1), UNKNOWN);
        due("full", full.thing(0, 0, 1, 0), FULL);
    }

    @Says(promise = {0, 4}, words = "of several the first: UNKNOWN; OUTSIDE")
    private static void orderOfAbout() {
        due("thing and what", land().about(4, 8), UNKNOWN);
        due("thing and what", land().about(-1, -1), UNKNOWN);
        due("what", land().about(3, 8), OUTSIDE);
    }

    @Says(promise = {0, 5}, words = "of several the first: UNKNOWN; OUTSIDE; STATE; FULL")
    private static void orderOfDraw() {
        TrueWeights x = land();
        due("thing and v", x.draw(4, 100001), UNKNOWN);
        due("v and no pump", x.draw(2, 100001), OUTSIDE);
        due("no pump", x.draw(2, 0), STATE);
        draws(x, 3, 0, 0, 0);
        due("v and full", x.draw(3, -100001), OUTSIDE);
        due("full", x.draw(3, 0), FULL);
    }

    @Says(promise = {0, 7}, words = "of several the first: UNKNOWN; STATE")
    private static void orderOfMove() {
        TrueWeights x = land();
        due("root and owner", x.move(0, 10), UNKNOWN);
        due("standard and owner", x.move(1, -1), UNKNOWN);
        due("thing and owner", x.move(4, 10), UNKNOWN);
        due("standard", x.move(1, 1), STATE);
    }

    @Says(promise = {0, 8}, words = "of several the first: UNKNOWN; OUTSIDE; STATE; FULL")
    private static void orderOfTrial() {
        for (TrueWeights x : new TrueWeights[] {land(), allTrials()}) {
            due("thing, reading, fineness", x.trial(4, 0, 100001, -1), UNKNOWN);
            due("by, reading, fineness", x.trial(2, 4, 100001, -1), UNKNOWN);
            due("root and by", x.trial(0, 4, 0, 0), UNKNOWN);
            due("thing, by the same", x.trial(4, 4, 0, 0), UNKNOWN);
            due("root and reading", x.trial(0, 0, 100001, 0), OUTSIDE);
            due("root and fineness", x.trial(0, 1, 0, -1), OUTSIDE);
            due("the same and reading", x.trial(2, 2, -100001, 0), OUTSIDE);
            due("no draws and fineness", x.trial(3, 0, 0, 100001), OUTSIDE);
            due("not settled and fineness", x.trial(2, 1, 0, 100001), OUTSIDE);
            due("reading", x.trial(2, 0, 100001, 0), OUTSIDE);
            due("root", x.trial(0, 0, 0, 0), STATE);
            due("no draws", x.trial(3, 0, 0, 0), STATE);
            due("not settled", x.trial(2, 1, 0, 0), STATE);
            due("the same", x.trial(2, 2, 0, 0), STATE);
        }
        due("full", allTrials().trial(2, 0, 0, 0), FULL);
    }

    @Says(promise = {0, 9}, words = "of several the first: UNKNOWN; OUTSIDE")
    private static void orderOfTold() {
        TrueWeights x = land();
        due("no trials and what", x.told(0, 8), UNKNOWN);
        x.trial(1, 0, 0, 0);
        due("trial and what", x.told(1, -1), UNKNOWN);
        due("what", x.told(0, -1), OUTSIDE);
    }

    @Says(promise = {0, 19}, words = "of several the first: UNKNOWN; OUTSIDE: number; STATE")
    private static void orderOfSeal() {
        TrueWeights x = land();
        due("thing and number", x.seal(4, 0), UNKNOWN);
        due("root and number", x.seal(0, 10000), OUTSIDE);
        due("not good and number", x.seal(2, 0), OUTSIDE);
        due("not good", x.seal(2, 1), STATE);
    }

    @Says(promise = 0, words = "What is refused changes nothing")
    private static void refusedInAnyState() {
        unchanged("pass(0)", 0, x -> x.pass(0), OUTSIDE);
        unchanged("pass(5001)", 0, x -> x.pass(5001), OUTSIDE);
        unchanged("thing of kind 4", 0, x -> x.thing(4, 0, 1, 0), OUTSIDE);
        unchanged("thing of drift 101", 0, x -> x.thing(2, 101, 1, 0), OUTSIDE);
        unchanged("thing of period 0", 0, x -> x.thing(2, 0, 0, 0), OUTSIDE);
        unchanged("thing of owner 10", 0, x -> x.thing(2, 0, 1, 10), UNKNOWN);
        unchanged("about thing 6", 0, x -> x.about(6, 0), UNKNOWN);
        unchanged("about what 8", 0, x -> x.about(2, 8), OUTSIDE);
        unchanged("draw of thing 6", 0, x -> x.draw(6, 0), UNKNOWN);
        unchanged("draw of 100001", 0, x -> x.draw(3, 100001), OUTSIDE);
        unchanged("draw of a scale", 0, x -> x.draw(2, 0), STATE);
        unchanged("a fourth draw", 0, x -> x.draw(4, 77), FULL);
        unchanged("allow of kind 0", 0, x -> x.allow(0, true, 5), OUTSIDE);
        unchanged("allow of kind 4", 0, x -> x.allow(4, false, 5), OUTSIDE);
        unchanged("allow of -1", 0, x -> x.allow(2, true, -1), OUTSIDE);
        unchanged("allow of 100001", 0, x -> x.allow(2, false, 100001), OUTSIDE);
        unchanged("move of thing 6", 0, x -> x.move(6, 0), UNKNOWN);
        unchanged("move of a sealed one to owner 10", 0, x -> x.move(2, 10), UNKNOWN);
        unchanged("move of a root", 0, x -> x.move(0, 5), STATE);
        unchanged("move of a standard", 0, x -> x.move(1, 5), STATE);
        unchanged("told of trial 99", 0, x -> x.told(99, 0), UNKNOWN);
        unchanged("told of what 8", 0, x -> x.told(0, 8), OUTSIDE);
        unchanged("sealed(0)", 0, x -> x.sealed(0), OUTSIDE);
        unchanged("charged(10)", 0, x -> x.charged(10), UNKNOWN);
        unchanged("count(8)", 0, x -> x.count(8), OUTSIDE);
    }

    @Says(promise = {0, 8}, words = "What is refused changes nothing: trial")
    private static void refusedTrials() {
        unchanged("of thing 6", 0, x -> x.trial(6, 0, 0, 0), UNKNOWN);
        unchanged("by thing 6", 0, x -> x.trial(4, 6, 0, 0), UNKNOWN);
        unchanged("reading", 0, x -> x.trial(2, 0, 100001, 0), OUTSIDE);
        unchanged("fineness of a pump with draws", 0, x -> x.trial(4, 0, 0, 100001), OUTSIDE);
        unchanged("of a root", 0, x -> x.trial(0, 1, 0, 0), STATE);
        unchanged("of a pump with two draws", 0, x -> x.trial(3, 0, 0, 0), STATE);
        unchanged("by the same", 0, x -> x.trial(1, 1, 900, 0), STATE);
        unchanged("of a pump with draws, by a scale", 0, x -> x.trial(4, 2, 0, 0), STATE);
        unchanged("of a pump with draws, by a pump", 0, x -> x.trial(4, 3, 0, 0), STATE);
        unchanged("of a pump with draws, by one that is not settled", 0, x -> x.trial(4, 5, 0, 0), STATE);
        unchanged("of a pump with draws, by one that is due", 4001, x -> x.trial(4, 1, 0, 0), STATE);
    }

    @Says(promise = {0, 19, 21}, words = "What is refused changes nothing: seal, charge")
    private static void refusedSealsAndCharges() {
        unchanged("seal on thing 6", 0, x -> x.seal(6, 9), UNKNOWN);
        unchanged("seal 0", 0, x -> x.seal(2, 0), OUTSIDE);
        unchanged("seal 10000", 0, x -> x.seal(2, 10000), OUTSIDE);
        unchanged("seal on a root", 0, x -> x.seal(0, 9), STATE);
        unchanged("seal on a standard", 0, x -> x.seal(1, 9), STATE);
        unchanged("seal on one not good", 0, x -> x.seal(3, 9), STATE);
        unchanged("seal with its own number", 0, x -> x.seal(2, 8), STATE);
        unchanged("seal with a broken one's number", 0, x -> x.seal(2, 7), STATE);
        unchanged("charge of thing 6", 0, x -> x.charge(6), UNKNOWN);
        unchanged("charge of a standard", 0, x -> x.charge(1), STATE);
        unchanged("charge of a good one", 0, x -> x.charge(2), STATE);
        unchanged("a second charge", 0, x -> x.charge(3), STATE);
        unchanged("charge of another day", 1, x -> x.charge(3), STATE);
    }

    @Says(promise = {0, 2, 3, 8}, words = "What is refused changes nothing: FULL")
    private static void refusedWhenFull() {
        alike("pass beyond the last day", lastDay(), lastDay(), x -> x.pass(1), FULL);
        alike("thing 40", allThings(), allThings(), x -> x.thing(PUMP, 1, 1, 1), FULL);
        alike("trial 300", allTrials(), allTrials(), x -> x.trial(2, 0, 900, 0), FULL);
        TrueWeights x = allTrials();
        TrueWeights y = allTrials();
        draws(x, 3, 1, 2, 3);
        draws(y, 3, 1, 2, 3);
        alike("trial 300, of a pump with draws", x, y, z -> z.trial(3, 0, 0, 0), FULL);
    }

    /**
     * Thing 0 a root, 1 a standard, 2 a scale with seal 8 (its seal 7 is broken), 3 a pump that is
     * charged and has two draws, 4 a pump with three, 5 a standard that was never tried.
     */
    private static TrueWeights busyLand() {
        TrueWeights x = land();
        x.thing(PUMP, 0, 4000, 3);
        x.thing(STANDARD, 0, 4000, 0);
        x.pass(10);
        x.trial(1, 0, 2, 1);
        x.trial(2, 1, 3, 1);
        x.seal(2, 7);
        x.seal(2, 8);
        draws(x, 3, 400, 400, 401);
        x.trial(3, 1, 0, 0);
        x.charge(3);
        x.draw(3, 5);
        x.draw(3, 6);
        draws(x, 4, 10, 20, 30);
        x.allow(SCALE, true, 150);
        return x;
    }

    private static void unchanged(String call, int daysLater, Call refused, int answer) {
        TrueWeights x = busyLand();
        TrueWeights y = busyLand();
        if (daysLater > 0) {
            x.pass(daysLater);
            y.pass(daysLater);
        }
        alike(call, x, y, refused, answer);
    }

    /** Two objects that were used alike: one gets the refused call, then both must answer alike. */
    private static void alike(String call, TrueWeights x, TrueWeights untouched, Call refused, int answer) {
        due(call, refused.on(x), answer);
        String want = transcript(untouched);
        String got = transcript(x);
        if (!got.equals(want)) wrong.add(at + ": after " + call + " the answers are " + got + ", due are " + want);
    }

    private static String transcript(TrueWeights x) {
        StringBuilder s = new StringBuilder();
        for (int what = 0; what <= 7; what++) s.append(x.count(what)).append(' ');
        int things = x.count(1);
        for (int n = 0; n < Math.min(6, things); n++) tellThing(x, n, s);
        tellThing(x, things - 1, s);
        for (int t = 0; t < Math.min(3, x.count(2)); t++) {
            for (int what = 0; what <= 7; what++) s.append(x.told(t, what)).append(' ');
        }
        for (int number = 6; number <= 9; number++) s.append(x.sealed(number)).append(' ');
        for (int owner = 0; owner <= 9; owner++) s.append(x.charged(owner)).append(' ');
        for (int i = 0; i <= 4; i++) s.append(x.first(i)).append(' ');
        s.append(x.unsettled()).append(" | ");
        return s.append(probe(x)).toString();
    }

    private static void tellThing(TrueWeights x, int n, StringBuilder s) {
        for (int what = 0; what <= 7; what++) s.append(x.about(n, what)).append(' ');
        s.append(x.error(n)).append(' ').append(x.span(n)).append(' ').append(x.settled(n)).append(' ');
        s.append(x.due(n)).append(' ').append(x.left(n)).append(' ').append(x.chain(n, 0)).append(' ');
        s.append(x.chain(n, 1)).append(' ').append(x.judge(n)).append(' ').append(x.stays(n)).append(", ");
    }

    /** What only a call that changes something shows: draws, allowances, numbers that are free, owners' charges. */
    private static String probe(TrueWeights x) {
        StringBuilder s = new StringBuilder();
        for (int kind = 1; kind <= 3; kind++) s.append(x.allow(kind, true, 60)).append(' ').append(x.allow(kind, false, 70)).append(' ');
        s.append(x.draw(3, 100)).append(' ').append(x.trial(4, 0, 0, 0)).append(' ').append(x.error(4)).append(' ');
        s.append(x.trial(3, 0, 0, 0)).append(' ').append(x.error(3)).append(' ').append(x.span(3)).append(' ');
        s.append(x.trial(2, 0, 300, 0)).append(' ').append(x.charge(2)).append(' ').append(x.charge(3)).append(' ');
        s.append(x.trial(2, 0, 0, 0)).append(' ');
        for (int number = 6; number <= 9; number++) s.append(x.seal(2, number)).append(' ');
        s.append(x.thing(SCALE, 0, 1, 0)).append(' ').append(x.pass(1));
        return s.toString();
    }

    // ---- Terms, section 1

    @Says(promise = {1, 24}, words = "No THINGS, day 0")
    private static void empty() {
        TrueWeights x = new TrueWeights();
        for (int what = 0; what <= 7; what++) due("count(" + what + ")", x.count(what), 0);
        due("unsettled()", x.unsettled(), 0);
        due("first(0)", x.first(0), NONE);
        for (int owner = 0; owner <= 9; owner++) due("charged(" + owner + ")", x.charged(owner), 0);
        for (int number : new int[] {1, 9999}) due("sealed(" + number + ")", x.sealed(number), NONE);
    }

    @Says(promise = {1, 4, 5, 7, 8, 9, 10, 11, 12, 13, 14, 15, 17, 18, 19, 21}, words = "No THINGS: UNKNOWN")
    private static void emptyKnowsNothing() {
        unknown(new TrueWeights(), 0, "thing 0 of none");
    }

    @Says(promise = {4, 5, 7, 8, 9, 10, 11, 12, 13, 14, 15, 17, 18, 19, 21}, words = "UNKNOWN: there is no such THING, TRIAL")
    private static void numbersBesideThings() {
        TrueWeights x = land();
        for (int n : new int[] {-1, 4, 5, 39, 40, 41, LEAST, MOST}) unknown(x, n, "thing " + n + " of 4");
        TrueWeights y = allThings();
        due("the last one", y.about(39, 0), SCALE);
        for (int n : new int[] {-1, 40, 41, LEAST, MOST}) unknown(y, n, "thing " + n + " of 40");
    }

    private static void unknown(TrueWeights x, int n, String which) {
        due("about " + which, x.about(n, 0), UNKNOWN);
        due("draw " + which, x.draw(n, 0), UNKNOWN);
        due("move " + which, x.move(n, 0), UNKNOWN);
        due("trial " + which, x.trial(n, 0, 0, 0), UNKNOWN);
        due("trial by " + which, x.trial(0, n, 0, 0), UNKNOWN);
        due("told of a trial, as " + which, x.told(n, 0), UNKNOWN);
        due("error " + which, x.error(n), UNKNOWN);
        due("span " + which, x.span(n), UNKNOWN);
        due("settled " + which, x.settled(n), UNKNOWN);
        due("due " + which, x.due(n), UNKNOWN);
        due("left " + which, x.left(n), UNKNOWN);
        due("chain " + which, x.chain(n, 0), UNKNOWN);
        due("judge " + which, x.judge(n), UNKNOWN);
        due("stays " + which, x.stays(n), UNKNOWN);
        due("seal " + which, x.seal(n, 1), UNKNOWN);
        due("charge " + which, x.charge(n), UNKNOWN);
    }

    @Says(promise = 2, words = "THE DAY goes on by n (1 .. 5000); OUTSIDE")
    private static void daysOfAPass() {
        due("pass(1)", new TrueWeights().pass(1), 1);
        due("pass(5000)", new TrueWeights().pass(5000), 5000);
        for (int n : new int[] {0, -1, -5000, 5001, LEAST, MOST}) due("pass(" + n + ")", new TrueWeights().pass(n), OUTSIDE);
    }

    @Says(promise = 2, words = "20000 at most; FULL: above 20000")
    private static void lastOfDays() {
        for (int n : new int[] {1, 2, 4999}) {
            TrueWeights x = new TrueWeights();
            for (int k = 0; k < 3; k++) x.pass(5000);
            x.pass(5000 - n);
            due("just above it by " + (n + 1), x.pass(n + 1), FULL);
            due("just to it by " + n, x.pass(n), 20000);
            due("one more", x.pass(1), FULL);
            due("many more", x.pass(5000), FULL);
            due("THE DAY", x.count(0), 20000);
        }
    }

    @Says(promise = 3, words = "KIND: 0 ROOT, 1 STANDARD, 2 SCALE, 3 PUMP; OUTSIDE")
    private static void kinds() {
        TrueWeights x = new TrueWeights();
        for (int kind = 0; kind <= 3; kind++) due("kind " + kind, x.thing(kind, 0, 1, 0), kind);
        for (int kind : new int[] {-1, 4, LEAST, MOST}) due("kind " + kind, x.thing(kind, 0, 1, 0), OUTSIDE);
    }

    @Says(promise = 3, words = "DRIFT (0 .. 100); OUTSIDE, of a ROOT too")
    private static void drifts() {
        for (int kind = 0; kind <= 3; kind++) {
            TrueWeights x = new TrueWeights();
            due("drift 0", x.thing(kind, 0, 1, 0), 0);
            due("drift 100", x.thing(kind, 100, 1, 0), 1);
            due("told", x.about(1, 1), 100);
            for (int drift : new int[] {-1, 101, LEAST, MOST}) due("drift " + drift, x.thing(kind, drift, 1, 0), OUTSIDE);
        }
    }

    @Says(promise = 3, words = "PERIOD (1 .. 4000); OUTSIDE, of a ROOT too")
    private static void periods() {
        for (int kind = 0; kind <= 3; kind++) {
            TrueWeights x = new TrueWeights();
            due("period 1", x.thing(kind, 0, 1, 0), 0);
            due("period 4000", x.thing(kind, 0, 4000, 0), 1);
            due("told", x.about(1, 2), 4000);
            for (int period : new int[] {0, -1, 4001, LEAST, MOST}) due("period " + period, x.thing(kind, 0, period, 0), OUTSIDE);
        }
    }

    @Says(promise = {3, 7, 22}, words = "OWNERS are 0 .. 9; UNKNOWN: OWNER")
    private static void owners() {
        TrueWeights x = new TrueWeights();
        due("thing of 0", x.thing(SCALE, 0, 1, 0), 0);
        due("thing of 9", x.thing(PUMP, 0, 1, 9), 1);
        due("move to 9", x.move(0, 9), 0);
        due("move to 0", x.move(1, 0), 9);
        due("owner", x.about(0, 3), 9);
        due("owner", x.about(1, 3), 0);
        due("charged", x.charged(0), 0);
        due("charged", x.charged(9), 0);
        for (int owner : new int[] {-1, 10, LEAST, MOST}) {
            due("thing of " + owner, x.thing(SCALE, 0, 1, owner), UNKNOWN);
            due("move to " + owner, x.move(0, owner), UNKNOWN);
            due("charged(" + owner + ")", x.charged(owner), UNKNOWN);
        }
    }

    @Says(promise = {3, 24}, words = "THINGS 0, 1, .. (40 at most); FULL")
    private static void fullOfThings() {
        TrueWeights x = new TrueWeights();
        for (int n = 0; n < 40; n++) due("thing", x.thing(n % 4, 0, 1, n % 10), n);
        for (int kind = 0; kind <= 3; kind++) due("thing 40", x.thing(kind, 0, 1, 0), FULL);
        due("THINGS", x.count(1), 40);
    }

    @Says(promise = 4, words = "about: what = 0 .. 7; OUTSIDE")
    private static void aboutWhat() {
        TrueWeights x = land();
        due("what 0", x.about(3, 0), PUMP);
        due("what 7", x.about(3, 7), 0);
        for (int what : new int[] {-1, 8, LEAST, MOST}) due("what " + what, x.about(3, what), OUTSIDE);
    }

    @Says(promise = 4, words = "its latest one (5; NONE), its SEAL (6; NONE)")
    private static void aboutNone() {
        TrueWeights x = land();
        for (int n = 0; n < 4; n++) {
            due("trials", x.about(n, 4), 0);
            due("latest", x.about(n, 5), NONE);
            due("seal", x.about(n, 6), NONE);
            due("charges", x.about(n, 7), 0);
        }
        x.trial(2, 0, 0, 0);
        due("latest, trial 0", x.about(2, 5), 0);
        due("seal", x.about(2, 6), NONE);
        x.seal(2, 1);
        due("seal", x.about(2, 6), 1);
    }

    @Says(promise = 5, words = "v is not -100000 .. 100000: OUTSIDE")
    private static void drawBounds() {
        TrueWeights x = land();
        for (int v : new int[] {-100001, 100001, LEAST, MOST}) due("draw of " + v, x.draw(3, v), OUTSIDE);
        due("least", x.draw(3, -100000), 1);
        due("most", x.draw(3, 100000), 2);
    }

    @Says(promise = 5, words = "STATE: it is no PUMP")
    private static void drawOfNoPump() {
        for (int kind = ROOT; kind <= SCALE; kind++) due("kind " + kind, land().draw(kind, 0), STATE);
    }

    @Says(promise = 5, words = "3 at most; FULL")
    private static void fourthDraw() {
        TrueWeights x = land();
        for (int n = 1; n <= 3; n++) due("draw", x.draw(3, n), n);
        due("a fourth", x.draw(3, 4), FULL);
        x.trial(3, 0, 0, 0);
        due("the fourth was not taken", x.error(3), 2);
        due("the fourth was not taken", x.span(3), 2);
    }

    @Says(promise = 5, words = "they are used up by its next TRIAL")
    private static void drawsUsedUp() {
        TrueWeights x = land();
        x.thing(PUMP, 0, 1, 0);
        draws(x, 3, 1, 2, 3);
        draws(x, 4, 4, 5, 6);
        x.trial(3, 0, 0, 0);
        due("used up", x.trial(3, 0, 0, 0), STATE);
        due("another pump's are kept", x.draw(4, 0), FULL);
        for (int n = 1; n <= 3; n++) due("anew", x.draw(3, 10 * n), n);
        x.trial(3, 0, 0, 0);
        due("the new ones", x.error(3), 20);
        due("the new ones", x.span(3), 20);
    }

    @Says(promise = 6, words = "KIND 1 .. 3; OUTSIDE: kind")
    private static void allowKinds() {
        for (int kind : new int[] {0, -1, 4, LEAST, MOST}) {
            due("new, kind " + kind, land().allow(kind, true, 5), OUTSIDE);
            due("in use, kind " + kind, land().allow(kind, false, 5), OUTSIDE);
        }
        for (int kind = 1; kind <= 3; kind++) due("kind " + kind, land().allow(kind, true, 5), 100);
    }

    @Says(promise = 6, words = "0 .. 100000; OUTSIDE: v")
    private static void allowBounds() {
        for (int kind = 1; kind <= 3; kind++) {
            TrueWeights x = land();
            for (int v : new int[] {-1, 100001, LEAST, MOST}) {
                due("new, " + v, x.allow(kind, true, v), OUTSIDE);
                due("in use, " + v, x.allow(kind, false, v), OUTSIDE);
            }
            due("least", x.allow(kind, true, 0), 100);
            due("most", x.allow(kind, true, 100000), 0);
            due("what it was", x.allow(kind, true, 1), 100000);
            due("in use, least", x.allow(kind, false, 0), 200);
            due("in use, most", x.allow(kind, false, 100000), 0);
            due("what it was", x.allow(kind, false, 1), 100000);
        }
    }

    @Says(promise = 6, words = "100 and 200 at first")
    private static void allowancesAtFirst() {
        TrueWeights x = land();
        for (int kind = 1; kind <= 3; kind++) {
            due("new", x.allow(kind, true, 1000 + kind), 100);
            due("in use", x.allow(kind, false, 2000 + kind), 200);
        }
        for (int kind = 1; kind <= 3; kind++) {
            due("each its own", x.allow(kind, true, 0), 1000 + kind);
            due("each its own", x.allow(kind, false, 0), 2000 + kind);
        }
    }

    @Says(promise = 7, words = "STATE: it is a ROOT, a STANDARD")
    private static void moveOfKinds() {
        TrueWeights x = land();
        due("root", x.move(0, 5), STATE);
        due("standard", x.move(1, 5), STATE);
        due("scale", x.move(2, 5), 2);
        due("pump", x.move(3, 5), 3);
        due("to the same", x.move(3, 5), 5);
    }

    // ---- trials

    @Says(promise = 8, words = "READING -100000 .. 100000; OUTSIDE")
    private static void readingBounds() {
        for (int kind = STANDARD; kind <= SCALE; kind++) {
            TrueWeights x = land();
            for (int v : new int[] {-100001, 100001, LEAST, MOST}) due("reading " + v, x.trial(kind, 0, v, 0), OUTSIDE);
            due("least", x.trial(kind, 0, -100000, 0), 0);
            due("least", x.error(kind), -100000);
            due("most", x.trial(kind, 0, 100000, 0), 1);
            due("most", x.error(kind), 100000);
        }
    }

    @Says(promise = 8, words = "READING .. of a PUMP not looked at")
    private static void readingOfAPump() {
        for (int v : new int[] {-100001, 100001, LEAST, MOST}) {
            TrueWeights x = land();
            due("without draws", x.trial(3, 0, v, 0), STATE);
            draws(x, 3, 7, 7, 7);
            due("with draws", x.trial(3, 0, v, 0), 0);
            due("error", x.error(3), 7);
        }
    }

    @Says(promise = 8, words = "FINENESS 0 .. 100000; OUTSIDE")
    private static void finenessBounds() {
        for (int kind = STANDARD; kind <= PUMP; kind++) {
            TrueWeights x = land();
            draws(x, 3, 0, 0, 0);
            for (int v : new int[] {-1, 100001, LEAST, MOST}) due("fineness " + v, x.trial(kind, 0, 0, v), OUTSIDE);
            due("least", x.trial(kind, 0, 0, 0), 0);
            due("least", x.span(kind), 0);
            draws(x, 3, 0, 0, 0);
            due("most", x.trial(kind, 0, 0, 100000), 1);
            due("most", x.span(kind), 100000);
        }
    }

    @Says(promise = 8, words = "STATE: it is a ROOT")
    private static void trialOfARoot() {
        TrueWeights x = land();
        x.thing(ROOT, 0, 1, 0);
        x.trial(1, 0, 0, 0);
        for (int by = 0; by <= 4; by++) due("by " + by, x.trial(0, by, 0, 0), STATE);
    }

    @Says(promise = 8, words = "STATE: a PUMP without three DRAWS")
    private static void trialOfAPump() {
        TrueWeights x = land();
        for (int n = 1; n <= 3; n++) {
            due("with " + (n - 1), x.trial(3, 0, 0, 0), STATE);
            x.draw(3, 0);
        }
        due("with three", x.trial(3, 0, 0, 0), 0);
    }

    @Says(promise = 8, words = "STATE: the other one is the same")
    private static void trialByTheSame() {
        TrueWeights x = land();
        x.trial(1, 0, 0, 0);
        due("standard, settled and not due", x.trial(1, 1, 0, 0), STATE);
        due("root", x.trial(0, 0, 0, 0), STATE);
        due("scale", x.trial(2, 2, 0, 0), STATE);
    }

    @Says(promise = 8, words = "STATE: the other one is no ROOT or STANDARD")
    private static void trialByNoStandard() {
        TrueWeights x = land();
        x.trial(2, 0, 0, 0);
        tryPump(x, 3, 0);
        due("by a scale", x.trial(1, 2, 0, 0), STATE);
        due("by a pump", x.trial(1, 3, 0, 0), STATE);
        due("by a root", x.trial(1, 0, 0, 0), 2);
        due("by a standard", x.trial(2, 1, 0, 0), 3);
    }

    @Says(promise = 8, words = "By a STANDARD that is not SETTLED nothing is tried")
    private static void trialByOneNotSettled() {
        TrueWeights x = land();
        x.thing(STANDARD, 0, 4000, 0);
        due("no trial yet", x.trial(2, 1, 0, 0), STATE);
        x.trial(1, 0, 0, 0);
        x.trial(4, 1, 0, 0);
        due("settled", x.trial(2, 4, 0, 0), 2);
        x.trial(1, 0, 1, 0);
        due("not settled any more", x.trial(2, 4, 0, 0), STATE);
        due("it can be tried itself", x.trial(4, 1, 0, 0), 4);
        due("settled again", x.trial(2, 4, 0, 0), 5);
    }

    @Says(promise = {8, 13}, words = "By a STANDARD that is DUE nothing is tried; more than PERIOD days ago")
    private static void trialByOneDue() {
        for (int period : new int[] {1, 2, 4000}) {
            TrueWeights x = landOf(STANDARD, 0, period);
            x.thing(SCALE, 0, 1, 0);
            x.trial(1, 0, 0, 0);
            x.pass(period);
            due("period " + period + ", its last day", x.trial(2, 1, 0, 0), 1);
            x.pass(1);
            due("period " + period + ", a day more", x.trial(2, 1, 0, 0), STATE);
            due("it can be tried itself", x.trial(1, 0, 0, 0), 2);
            due("then by it", x.trial(2, 1, 0, 0), 3);
        }
    }

    @Says(promise = {8, 12, 13, 14}, words = "a ROOT: always SETTLED, never DUE")
    private static void rootIsAlwaysFit() {
        TrueWeights x = lastDay();
        due("settled", x.settled(0), 1);
        due("due", x.due(0), 0);
        due("left", x.left(0), NONE);
        due("by it", x.trial(1, 0, 0, 0), 0);
    }

    @Says(promise = {8, 24}, words = "TRIALS 0, 1, .. (300 at most); FULL")
    private static void fullOfTrials() {
        TrueWeights x = land();
        for (int n = 0; n < 300; n++) due("trial", x.trial(1 + n % 2, 0, 0, 0), n);
        due("of a standard", x.trial(1, 0, 0, 0), FULL);
        due("of a scale, by a standard", x.trial(2, 1, 0, 0), FULL);
        draws(x, 3, 0, 0, 0);
        due("of a pump", x.trial(3, 0, 0, 0), FULL);
        due("TRIALS", x.count(2), 300);
        due("latest of one", x.about(1, 5), 298);
        due("latest of the other", x.about(2, 5), 299);
        due("told of the last", x.told(299, 0), 2);
        due("told of one beyond", x.told(300, 0), UNKNOWN);
    }

    @Says(promise = 8, words = "the READING is the one in the middle, the greatest less the least comes to the SPAN")
    private static void middleOfDraws() {
        int[][] cases = {{1, 2, 3, 2, 2}, {3, 1, 2, 2, 2}, {2, 3, 1, 2, 2}, {5, 5, 9, 5, 4}, {9, 5, 9, 9, 4}, {-4, -4, -4, -4, 0},
            {-100000, 100000, 0, 0, 200000}, {100000, -100000, 100000, 100000, 200000}, {-100000, 100000, -100000, -100000, 200000}};
        for (int[] c : cases) {
            TrueWeights x = land();
            draws(x, 3, c[0], c[1], c[2]);
            x.trial(3, 0, 0, 0);
            due("error by " + Arrays.toString(c), x.error(3), c[3]);
            due("span by " + Arrays.toString(c), x.span(3), c[4]);
        }
        TrueWeights y = land();
        y.trial(1, 0, 100000, 100000);
        draws(y, 3, -100000, 100000, 100000);
        y.trial(3, 1, 0, 100000);
        due("the greatest", y.error(3), 200000);
        due("the widest", y.span(3), 400000);
    }

    @Says(promise = 9, words = "told: what = 0 .. 7; OUTSIDE; UNKNOWN")
    private static void toldWhat() {
        TrueWeights x = land();
        due("no trial yet", x.told(0, 0), UNKNOWN);
        x.trial(2, 0, 5, 6);
        int[] want = {2, 0, 0, 5, 6, 1, 0, NONE};
        for (int what = 0; what <= 7; what++) due("what " + what, x.told(0, what), want[what]);
        for (int what : new int[] {-1, 8, LEAST, MOST}) due("what " + what, x.told(0, what), OUTSIDE);
        for (int trial : new int[] {-1, 1, 299, 300, LEAST, MOST}) due("trial " + trial, x.told(trial, 0), UNKNOWN);
    }

    @Says(promise = 9, words = "on which TRIAL it is based (7; NONE: by a ROOT): the latest that it had then")
    private static void toldBase() {
        TrueWeights x = land();
        x.trial(1, 0, 0, 0);
        x.trial(2, 1, 0, 0);
        x.trial(1, 0, 0, 0);
        x.trial(2, 1, 0, 0);
        due("by a root", x.told(0, 7), NONE);
        due("trial 0", x.told(1, 7), 0);
        due("the later one", x.told(3, 7), 2);
    }

    @Says(promise = {10, 11}, words = "NONE: it has no TRIAL; a ROOT 0")
    private static void errorOfNone() {
        TrueWeights x = landOf(SCALE, 100, 1);
        x.pass(5000);
        due("error", x.error(1), NONE);
        due("span", x.span(1), NONE);
        due("a root's error", x.error(0), 0);
        due("a root's span", x.span(0), 0);
        x.trial(1, 0, 0, 0);
        due("error", x.error(1), 0);
        due("span", x.span(1), 0);
    }

    @Says(promise = 11, words = "DRIFT times the days since by 100, cut up")
    private static void spanCutUp() {
        int[][] cases = {{0, 5000, 0}, {1, 0, 0}, {1, 1, 1}, {1, 99, 1}, {1, 100, 1}, {1, 101, 2}, {50, 1, 1}, {50, 2, 1}, {50, 3, 2},
            {99, 1, 1}, {99, 100, 99}, {99, 101, 100}, {100, 1, 1}, {100, 5000, 5000}};
        for (int[] c : cases) {
            TrueWeights x = landOf(SCALE, c[0], 1);
            x.trial(1, 0, 0, 3);
            if (c[1] > 0) x.pass(c[1]);
            due("drift " + c[0] + ", days " + c[1], x.span(1), 3 + c[2]);
            due("its SPAN then", x.told(0, 4), 3);
        }
        TrueWeights y = landOf(SCALE, 100, 1);
        y.trial(1, 0, 0, 100000);
        for (int n = 0; n < 4; n++) y.pass(5000);
        due("all days there are", y.span(1), 120000);
    }

    @Says(promise = 8, words = "the SPAN of that one on THE DAY, each cut up by itself; a ROOT's 0")
    private static void spanOfAChain() {
        TrueWeights x = new TrueWeights();
        x.thing(ROOT, 100, 1, 0);
        x.thing(STANDARD, 1, 4000, 0);
        x.thing(STANDARD, 1, 4000, 0);
        x.thing(SCALE, 1, 4000, 0);
        x.pass(1000);
        x.trial(1, 0, 0, 0);
        due("by a root that drifts", x.span(1), 0);
        x.pass(1);
        x.trial(2, 1, 0, 0);
        x.pass(1);
        x.trial(3, 2, 0, 0);
        x.pass(1);
        due("three hundredths, each cut up", x.span(3), 3);
        due("error", x.error(3), 0);
    }

    @Says(promise = 12, words = "SETTLED: has a TRIAL, and the latest one is SETTLED")
    private static void settledByTheLatest() {
        TrueWeights x = land();
        int[] untried = {1, 0, 0, 0};
        for (int n = 0; n < 4; n++) due("untried " + n, x.settled(n), untried[n]);
        TrueWeights y = shakenLand();
        due("the latest is not", y.settled(2), 0);
        y.trial(2, 0, 0, 0);
        due("the latest is, an older one is not", y.settled(2), 1);
        due("the older one", y.told(1, 5), 0);
    }

    @Says(promise = {13, 14}, words = "DUE, if it has none, or its latest is more than PERIOD days ago; 0: it is")
    private static void dueByPeriod() {
        for (int period : new int[] {1, 7, 4000}) {
            TrueWeights x = landOf(SCALE, 0, period);
            due("untried", x.due(1), 1);
            due("untried", x.left(1), 0);
            x.trial(1, 0, 0, 0);
            due("tried", x.due(1), 0);
            due("tried", x.left(1), period + 1);
            x.pass(period);
            due("PERIOD days ago", x.due(1), 0);
            due("PERIOD days ago", x.left(1), 1);
            x.pass(1);
            due("a day more", x.due(1), 1);
            due("a day more", x.left(1), 0);
            x.pass(5000);
            due("long ago", x.left(1), 0);
            x.trial(1, 0, 0, 0);
            due("tried again", x.left(1), period + 1);
        }
    }

    @Says(promise = 14, words = "How many days from now, though THE DAY is 20000 at most")
    private static void leftBeyondTheLastDay() {
        TrueWeights x = lastDay();
        x.trial(2, 0, 0, 0);
        due("left", x.left(2), 4001);
        due("due", x.due(2), 0);
    }

    @Says(promise = 15, words = "NONE: there are not so many")
    private static void chainEnds() {
        TrueWeights x = land();
        for (int n = 0; n < 4; n++) due("no link, thing " + n, x.chain(n, 0), NONE);
        x.trial(1, 0, 0, 0);
        x.trial(2, 1, 0, 0);
        due("link 0", x.chain(2, 0), 1);
        due("link 1", x.chain(2, 1), 0);
        for (int i : new int[] {2, 299, 300, 301, MOST, -1, LEAST}) due("link " + i, x.chain(2, i), NONE);
        due("a root", x.chain(0, 0), NONE);
    }

    @Says(promise = 15, words = "the one on which that is based, so on: 300 links")
    private static void longestChain() {
        TrueWeights x = eachOtherTried(300, 0, 0);
        due("the first of links", x.chain(2, 0), 299);
        due("the last of links", x.chain(2, 299), 0);
        due("beyond", x.chain(2, 300), NONE);
    }

    /** Thing 0 a root, standards 1 and 2 tried by one another in turn so often, 3 a scale that drifts. */
    private static TrueWeights eachOtherTried(int times, int reading, int firstFineness) {
        TrueWeights x = new TrueWeights();
        x.thing(ROOT, 0, 1, 0);
        x.thing(STANDARD, 0, 4000, 0);
        x.thing(STANDARD, 0, 4000, 0);
        x.thing(SCALE, 100, 4000, 9);
        x.trial(1, 0, reading, firstFineness);
        for (int n = 1; n < times; n++) x.trial(1 + n % 2, 2 - n % 2, reading, 0);
        return x;
    }

    // ---- Terms, section 2

    @Says(promise = {8, 9}, words = "WRONGED: .. have no number in common")
    private static void wrongedBySpans() {
        int[][] cases = {{0, 0, 0, 0, 0}, {0, 0, 1, 0, 1}, {0, 5, 12, 7, 0}, {0, 5, 13, 7, 1}, {0, 0, 5, 5, 0}, {0, 0, 6, 5, 1},
            {0, 5, 5, 0, 0}, {0, 5, 6, 0, 1}, {0, 100000, 0, 0, 0}, {100000, 100000, -100000, 100000, 0}, {100000, 99999, -100000, 100000, 1}};
        for (int[] c : cases) {
            for (int sign = -1; sign <= 1; sign += 2) {
                TrueWeights x = land();
                x.trial(2, 0, sign * c[0], c[1]);
                x.trial(2, 0, sign * c[2], c[3]);
                due("found by " + Arrays.toString(c), x.told(1, 6), c[4]);
            }
        }
    }

    @Says(promise = {8, 9}, words = "WRONGED: if it .. had a TRIAL ahead")
    private static void wrongedWithoutOneAhead() {
        for (int kind = STANDARD; kind <= PUMP; kind++) {
            TrueWeights x = land();
            draws(x, 3, 100000, 100000, 100000);
            x.trial(kind, 0, 100000, 0);
            due("kind " + kind, x.told(0, 6), 0);
        }
    }

    @Says(promise = {8, 9}, words = "WRONGED: if it was SETTLED")
    private static void wrongedWhenNotSettled() {
        TrueWeights x = shakenLand();
        x.trial(2, 0, -500, 0);
        due("was not settled", x.told(3, 6), 0);
        x.trial(2, 0, 500, 0);
        due("was settled", x.told(4, 6), 1);
    }

    @Says(promise = {8, 9}, words = "WRONGED: what it had on THE DAY")
    private static void wrongedByTheSpanOfTheDay() {
        for (int days : new int[] {100, 101}) {
            TrueWeights x = landOf(SCALE, 1, 4000);
            x.trial(1, 0, 0, 0);
            x.pass(days);
            x.trial(1, 0, 2, 0);
            due("after " + days + " days", x.told(1, 6), days == 100 ? 1 : 0);
        }
    }

    @Says(promise = {8, 9}, words = "WRONGED though it is DUE")
    private static void wrongedWhenDue() {
        TrueWeights x = landOf(SCALE, 0, 1);
        x.trial(1, 0, 0, 0);
        x.pass(2);
        x.trial(1, 0, 1, 0);
        due("found", x.told(1, 6), 1);
    }

    @Says(promise = {8, 16}, words = "all TRIALS that are based on that one ahead, and none else")
    private static void unsettledJustSince() {
        TrueWeights x = land();
        for (int n = 4; n <= 6; n++) x.thing(SCALE, 0, 4000, 0);
        x.trial(1, 0, 0, 0);
        x.trial(2, 1, 0, 0);
        x.trial(1, 0, 0, 0);
        x.trial(4, 1, 0, 0);
        x.trial(5, 0, 0, 0);
        x.trial(1, 0, 1, 0);
        x.trial(6, 1, 0, 0);
        int[] stands = {1, 1, 1, 0, 1, 1, 1};
        for (int t = 0; t < stands.length; t++) due("trial " + t, x.told(t, 5), stands[t]);
        due("unsettled()", x.unsettled(), 1);
    }

    @Says(promise = {8, 16}, words = "the new TRIAL is one of them all")
    private static void unsettledItself() {
        TrueWeights x = land();
        x.thing(STANDARD, 0, 4000, 0);
        x.trial(1, 0, 0, 0);
        x.trial(4, 1, 0, 0);
        x.trial(1, 4, 1, 0);
        due("found", x.told(2, 6), 1);
        due("the new one", x.told(2, 5), 0);
        due("the one ahead", x.told(0, 5), 1);
        due("unsettled()", x.unsettled(), 2);
        due("settled(1)", x.settled(1), 0);
    }

    @Says(promise = {8, 16}, words = "all that are based on UNSETTLED ones: through 300 TRIALS")
    private static void unsettledThroughAll() {
        TrueWeights x = eachOtherTried(299, 0, 0);
        due("none yet", x.unsettled(), 0);
        x.trial(1, 0, 1, 0);
        due("the one ahead was the last of odd ones", x.unsettled(), 0);
        TrueWeights y = new TrueWeights();
        y.thing(ROOT, 0, 1, 0);
        for (int n = 1; n <= 3; n++) y.thing(STANDARD, 0, 4000, 0);
        y.trial(1, 0, 0, 0);
        y.trial(2, 1, 0, 0);
        for (int n = 2; n < 299; n++) y.trial(2 + (n + 1) % 2, 2 + n % 2, 0, 0);
        y.trial(1, 0, 1, 0);
        due("all but the first and the last", y.unsettled(), 298);
        due("trial 1", y.told(1, 5), 0);
        due("trial 298", y.told(298, 5), 0);
        due("trial 299", y.told(299, 5), 1);
    }

    @Says(promise = {8, 16}, words = "UNSETTLED, for good")
    private static void unsettledForGood() {
        TrueWeights x = shakenLand();
        due("unsettled()", x.unsettled(), 1);
        x.trial(1, 0, 0, 0);
        x.trial(2, 1, 0, 0);
        x.pass(5000);
        due("the old one", x.told(1, 5), 0);
        due("unsettled()", x.unsettled(), 1);
    }

    @Says(promise = 17, words = "1 GOOD, if neither end is farther; 3 WRONG, if no number is as near; else 2")
    private static void judgeEdges() {
        int[][] cases = {{0, 0, GOOD}, {100, 0, GOOD}, {101, 0, WRONG}, {0, 100, GOOD}, {0, 101, NOT_SURE}, {60, 40, GOOD}, {60, 41, NOT_SURE},
            {140, 40, NOT_SURE}, {141, 40, WRONG}, {100, 1, NOT_SURE}, {101, 1, NOT_SURE}, {102, 1, WRONG}, {100000, 100000, NOT_SURE},
            {100000, 99900, NOT_SURE}, {100000, 99899, WRONG}};
        for (int[] c : cases) {
            for (int sign = -1; sign <= 1; sign += 2) {
                TrueWeights x = land();
                x.trial(2, 0, sign * c[0], c[1]);
                due("judge by " + Arrays.toString(c), x.judge(2), c[2]);
            }
        }
    }

    @Says(promise = {6, 17}, words = "ALLOWANCE 0 .. 100000")
    private static void judgeByLeastAndMost() {
        int[][] cases = {{0, 0, 0, GOOD}, {0, 1, 0, WRONG}, {0, 0, 1, NOT_SURE}, {0, 1, 1, NOT_SURE}, {0, 2, 1, WRONG},
            {100000, 100000, 0, GOOD}, {100000, 100000, 1, NOT_SURE}, {100000, 0, 100000, GOOD}};
        for (int[] c : cases) {
            TrueWeights x = land();
            x.allow(SCALE, true, c[0]);
            x.trial(2, 0, c[1], c[2]);
            due("judge by " + Arrays.toString(c), x.judge(2), c[3]);
        }
    }

    @Says(promise = 17, words = "for NEW ones (of just one TRIAL) and for those IN USE")
    private static void judgeNewAndInUse() {
        for (int kind = STANDARD; kind <= PUMP; kind++) {
            TrueWeights x = land();
            for (int n = 1; n <= 3; n++) {
                draws(x, 3, 150, 150, 150);
                x.trial(kind, 0, 150, 0);
                due("kind " + kind + ", trial " + n, x.judge(kind), n == 1 ? WRONG : GOOD);
            }
        }
        TrueWeights y = shakenLand();
        y.trial(2, 0, 150, 0);
        due("an unsettled one counts too", y.judge(2), GOOD);
    }

    @Says(promise = {17, 18}, words = "0: it is a ROOT, or not SETTLED; NONE: judge() tells 0")
    private static void notJudged() {
        TrueWeights x = land();
        for (int n = 0; n < 4; n++) {
            due("judge of an untried one", x.judge(n), 0);
            due("stays of an untried one", x.stays(n), NONE);
        }
        TrueWeights y = shakenLand();
        due("judge", y.judge(2), 0);
        due("stays", y.stays(2), NONE);
        due("judge of a standard", y.judge(1), GOOD);
        due("stays of a standard", y.stays(1), 20000);
    }

    @Says(promise = 18, words = "this day not counted: 0 on the last day")
    private static void staysToTheLastDay() {
        int[][] cases = {{1, 99, 100, GOOD}, {1, 100, 0, GOOD}, {3, 99, 33, GOOD}, {7, 98, 28, GOOD}, {100, 50, 50, GOOD}, {99, 1, 100, GOOD},
            {1, 101, 0, WRONG}, {1, 102, 100, WRONG}, {3, 102, 33, WRONG}, {100, 151, 50, WRONG}, {99, 200, 100, WRONG}};
        for (int[] c : cases) {
            for (int sign = -1; sign <= 1; sign += 2) {
                TrueWeights x = landOf(SCALE, c[0], 1);
                x.trial(1, 0, sign * c[1], 0);
                String by = " by " + Arrays.toString(c);
                due("judge" + by, x.judge(1), c[3]);
                due("stays" + by, x.stays(1), c[2]);
                if (c[2] > 0) x.pass(c[2]);
                due("judge on the last day" + by, x.judge(1), c[3]);
                due("stays on the last day" + by, x.stays(1), 0);
                x.pass(1);
                due("judge on the next" + by, x.judge(1), NOT_SURE);
                due("stays on the next" + by, x.stays(1), 20000);
            }
        }
    }

    @Says(promise = 18, words = "from now on: by the SPAN that the TRIAL told and the days since")
    private static void staysByWhatIsGone() {
        int[][] cases = {{99, 0, 100, GOOD}, {0, 99, 100, GOOD}, {80, 19, 100, GOOD}, {102, 0, 100, WRONG}, {120, 18, 100, WRONG}};
        for (int[] c : cases) {
            TrueWeights x = landOf(SCALE, 1, 1);
            x.pass(5000);
            x.trial(1, 0, c[0], c[1]);
            String by = " by " + Arrays.toString(c);
            due("judge" + by, x.judge(1), c[3]);
            due("stays" + by, x.stays(1), c[2]);
            x.pass(30);
            due("stays 30 days later" + by, x.stays(1), c[2] - 30);
        }
    }

    @Says(promise = 18, words = "20000 at most")
    private static void staysAtMost() {
        int[][] cases = {{199, 19900}, {200, 20000}, {201, 20000}, {100000, 20000}};
        for (int[] c : cases) {
            TrueWeights x = landOf(SCALE, 1, 1);
            x.allow(SCALE, true, c[0]);
            x.trial(1, 0, 0, 0);
            due("allowance " + c[0], x.stays(1), c[1]);
        }
        TrueWeights y = landOf(SCALE, 0, 1);
        y.trial(1, 0, 100, 0);
        due("good without drift", y.stays(1), 20000);
        y.trial(1, 0, 201, 0);
        due("wrong without drift", y.stays(1), 20000);
        TrueWeights z = landOf(SCALE, 100, 1);
        for (int n = 0; n < 4; n++) z.pass(5000);
        z.trial(1, 0, 100000, 0);
        due("from the last day on", z.stays(1), 20000);
    }

    @Says(promise = {10, 18, 21, 22, 23}, words = "the greatest ERROR that 300 TRIALS give: nothing wraps around")
    private static void greatestError() {
        for (int sign = -1; sign <= 1; sign += 2) {
            TrueWeights x = eachOtherTried(295, sign * 100000, 100000);
            due("none is found wronged", x.unsettled(), 0);
            long sum = 0;
            for (int n = 1; n <= 5; n++) {
                x.trial(3, 1, sign * 100000, 0);
                due("error", x.error(3), sign * 29600000);
                due("span", x.span(3), 100000);
                due("judge", x.judge(3), WRONG);
                due("stays", x.stays(3), 20000);
                long fine = 10L * n * (29600000 - 100000 - (n == 1 ? 100 : 200));
                due("charge " + n, x.charge(3), fine);
                sum += fine;
            }
            due("beyond an int", x.charged(9), sum);
            due("first(0)", x.first(0), 3);
            due("TRIALS", x.count(2), 300);
        }
    }

    // ---- Terms, section 3

    @Says(promise = {19, 20}, words = "SEALS have numbers 1 .. 9999; OUTSIDE")
    private static void sealNumbers() {
        TrueWeights x = land();
        x.trial(2, 0, 0, 0);
        for (int number : new int[] {0, -1, 10000, LEAST, MOST, NONE}) {
            due("seal " + number, x.seal(2, number), OUTSIDE);
            due("sealed " + number, x.sealed(number), OUTSIDE);
        }
        for (int number : new int[] {1, 9999}) {
            due("free", x.sealed(number), NONE);
            due("seal", x.seal(2, number), 1);
            due("sealed", x.sealed(number), 2);
        }
    }

    @Says(promise = {19, 20}, words = "each is put on once; STATE: the number was put on before")
    private static void sealOnce() {
        TrueWeights x = land();
        x.trial(2, 0, 0, 0);
        tryPump(x, 3, 0);
        int[] numbers = {1, 31, 32, 33, 63, 64, 4999, 9983, 9984, 9998, 9999};
        for (int number : numbers) due("seal " + number, x.seal(2, number), 1);
        for (int number : numbers) due("seal " + number + " again", x.seal(2, number), STATE);
        for (int number : numbers) due("seal " + number + " on another", x.seal(3, number), STATE);
        due("a number beside them", x.seal(3, 30), 1);
        due("a number beside them", x.seal(3, 9997), 1);
    }

    @Says(promise = 19, words = "STATE: it is none of these, is not JUDGED GOOD")
    private static void sealOnNotGood() {
        TrueWeights x = land();
        due("a root", x.seal(0, 5), STATE);
        x.trial(1, 0, 0, 0);
        due("a standard that is good", x.seal(1, 5), STATE);
        due("untried", x.seal(2, 5), STATE);
        x.trial(2, 0, 100, 1);
        due("not sure", x.seal(2, 5), STATE);
        x.trial(2, 0, 201, 0);
        due("wrong", x.seal(2, 5), STATE);
        x.trial(2, 0, 200, 0);
        due("good by just so much", x.seal(2, 5), 1);
        due("not settled", shakenLand().seal(2, 5), STATE);
    }

    @Says(promise = 19, words = "SEAL comes though it is DUE, and though GOOD ends on the next day")
    private static void sealOnTheLastGoodDay() {
        TrueWeights x = landOf(SCALE, 1, 1);
        x.trial(1, 0, 99, 0);
        x.pass(100);
        due("due", x.due(1), 1);
        due("good", x.seal(1, 5), 1);
        x.pass(1);
        due("not good any more", x.seal(1, 6), STATE);
        due("the seal stays", x.sealed(5), 1);
    }

    @Says(promise = {7, 20}, words = "broken, when it is MOVED")
    private static void sealBrokenByMove() {
        for (int owner : new int[] {0, 2, 9}) {
            TrueWeights x = land();
            x.trial(2, 0, 0, 0);
            x.seal(2, 5);
            x.move(2, owner);
            due("sealed", x.sealed(5), NONE);
            due("about", x.about(2, 6), NONE);
            due("put on before", x.seal(2, 5), STATE);
        }
    }

    @Says(promise = {8, 20}, words = "broken, when a TRIAL of it FINDS it WRONGED")
    private static void sealBrokenByWronged() {
        TrueWeights x = land();
        x.trial(2, 0, 0, 0);
        x.seal(2, 5);
        x.trial(2, 0, 1, 1);
        due("kept by one that touches", x.sealed(5), 2);
        x.trial(2, 0, 3, 0);
        due("broken", x.sealed(5), NONE);
        due("broken", x.about(2, 6), NONE);
    }

    @Says(promise = {8, 20}, words = "a SEAL is broken by nothing else")
    private static void sealKept() {
        TrueWeights x = land();
        x.trial(1, 0, 0, 0);
        x.trial(2, 1, 0, 0);
        x.seal(2, 5);
        x.trial(1, 0, 1, 0);
        due("its trial is unsettled", x.sealed(5), 2);
        x.trial(2, 0, 900, 0);
        due("it was not settled, so not found wronged", x.sealed(5), 2);
        due("it is wrong", x.judge(2), WRONG);
        x.charge(2);
        due("charged", x.sealed(5), 2);
        for (int n = 0; n < 4; n++) x.pass(5000);
        due("due", x.sealed(5), 2);
    }

    @Says(promise = {19, 20}, words = "at most one; broken, when another one is put on")
    private static void sealReplaced() {
        TrueWeights x = land();
        x.trial(2, 0, 0, 0);
        x.seal(2, 5);
        x.seal(2, 4);
        due("the old one", x.sealed(5), NONE);
        due("the new one", x.sealed(4), 2);
        due("about", x.about(2, 6), 4);
    }

    @Says(promise = {20, 24}, words = "The THING that has a SEAL: THING 0, THING 39")
    private static void sealOnFirstAndLast() {
        TrueWeights x = new TrueWeights();
        for (int n = 0; n < 39; n++) x.thing(n == 1 ? ROOT : SCALE, 0, 4000, 0);
        x.thing(PUMP, 0, 4000, 0);
        due("DUE, all but the root", x.count(3), 39);
        x.trial(0, 1, 0, 0);
        draws(x, 39, 0, 0, 0);
        x.trial(39, 1, 0, 0);
        x.seal(0, 9999);
        x.seal(39, 1);
        due("thing 0", x.sealed(9999), 0);
        due("thing 39", x.sealed(1), 39);
        due("GOOD", x.count(4), 2);
        due("DUE", x.count(3), 37);
    }

    @Says(promise = 21, words = "STATE: it is no SCALE, PUMP")
    private static void chargeOfKinds() {
        TrueWeights x = land();
        for (int n = 1; n <= 3; n++) {
            draws(x, 3, 101, 101, 101);
            x.trial(n, 0, 101, 0);
            due("wrong", x.judge(n), WRONG);
        }
        due("root", x.charge(0), STATE);
        due("standard", x.charge(1), STATE);
        due("scale", x.charge(2), 10);
        due("pump", x.charge(3), 10);
        due("CHARGES", x.count(7), 2);
    }

    @Says(promise = 21, words = "STATE: not WRONG")
    private static void chargeOfNotWrong() {
        TrueWeights x = land();
        due("untried", x.charge(2), STATE);
        x.trial(2, 0, 100, 0);
        due("good", x.charge(2), STATE);
        x.trial(2, 0, 201, 1);
        due("not sure", x.charge(2), STATE);
        x.trial(2, 0, 202, 1);
        due("wrong by one part", x.charge(2), 10);
        due("not settled", shakenLand().charge(2), STATE);
    }

    @Says(promise = 21, words = "STATE: its latest TRIAL is not of THE DAY")
    private static void chargeOnAnotherDay() {
        TrueWeights x = land();
        x.trial(2, 0, 500, 0);
        x.pass(1);
        due("a day later", x.charge(2), STATE);
        x.trial(2, 0, 500, 0);
        due("tried again", x.charge(2), 3000);
    }

    @Says(promise = 21, words = "one for each TRIAL at most; STATE: there was a CHARGE by that")
    private static void chargeTwice() {
        TrueWeights x = land();
        x.trial(2, 0, 500, 0);
        due("once", x.charge(2), 4000);
        due("twice", x.charge(2), STATE);
        x.move(2, 7);
        due("of another owner", x.charge(2), STATE);
        x.allow(SCALE, true, 0);
        due("by another law", x.charge(2), STATE);
        x.trial(2, 0, 500, 0);
        due("by a new trial", x.charge(2), 3000);
        due("about", x.about(2, 7), 2);
    }

    @Says(promise = 21, words = "10 for each part by which its nearer end is beyond the ALLOWANCE")
    private static void chargeByTheNearerEnd() {
        int[][] cases = {{101, 0, 10}, {150, 49, 10}, {150, 48, 20}, {100000, 0, 999000}, {100000, 99899, 10}};
        for (int[] c : cases) {
            for (int sign = -1; sign <= 1; sign += 2) {
                TrueWeights x = land();
                x.trial(2, 0, sign * c[0], c[1]);
                due("charge by " + Arrays.toString(c), x.charge(2), c[2]);
            }
        }
        TrueWeights y = land();
        y.allow(SCALE, true, 0);
        y.trial(2, 0, 1, 0);
        due("allowance 0", y.charge(2), 10);
        TrueWeights z = land();
        z.allow(PUMP, true, 100000);
        z.trial(1, 0, 1, 0);
        draws(z, 3, 100000, 100000, 100000);
        z.trial(3, 1, 0, 0);
        due("allowance 100000", z.charge(3), 10);
    }

    @Says(promise = 21, words = "as often as its OWNER has CHARGES, this one counted, 5 times at most")
    private static void chargeFiveTimes() {
        TrueWeights x = land();
        x.thing(SCALE, 0, 1, 2);
        x.allow(SCALE, true, 200);
        for (int n = 1; n <= 7; n++) {
            int thing = n % 2 == 0 ? 2 : 4;
            x.trial(thing, 0, 201, 0);
            due("charge " + n, x.charge(thing), 10 * Math.min(n, 5));
        }
        due("charged", x.charged(2), 10 + 20 + 30 + 40 + 50 + 50 + 50);
        due("another owner", x.charged(3), 0);
    }

    @Says(promise = 23, words = "NONE: there are not so many")
    private static void firstEnds() {
        TrueWeights x = landOf(STANDARD, 0, 1);
        due("no scale, no pump", x.first(0), NONE);
        TrueWeights y = land();
        due("first(0)", y.first(0), 2);
        due("first(1)", y.first(1), 3);
        for (int i : new int[] {2, 39, 40, 41, MOST, -1, LEAST}) due("first(" + i + ")", y.first(i), NONE);
        TrueWeights z = new TrueWeights();
        for (int n = 0; n < 40; n++) z.thing(SCALE + n % 2, 0, 1, 0);
        for (int i = 0; i < 40; i++) due("first(" + i + ") of 40", z.first(i), i);
        due("first(40) of 40", z.first(40), NONE);
    }

    @Says(promise = 23, words = "those without a TRIAL; then not SETTLED; then DUE; then all others, however great the excess")
    private static void firstByGroups() {
        for (int reading : new int[] {0, 99, 100, 101, 100000, -100000}) {
            TrueWeights x = new TrueWeights();
            x.thing(SCALE, 0, 4000, 0);
            x.thing(SCALE, 0, 1, 0);
            x.thing(SCALE, 0, 4000, 0);
            x.thing(SCALE, 0, 4000, 0);
            x.thing(ROOT, 0, 1, 0);
            x.thing(STANDARD, 0, 4000, 0);
            x.trial(0, 4, 100000, 100000);
            x.trial(1, 4, reading, 0);
            x.trial(5, 4, 0, 0);
            x.trial(2, 5, -reading, 0);
            x.trial(5, 4, 1, 0);
            x.pass(2);
            int[] want = {3, 2, 1, 0, NONE};
            for (int i = 0; i < want.length; i++) due("reading " + reading + ", first(" + i + ")", x.first(i), want[i]);
        }
    }

    @Says(promise = 23, words = "not SETTLED and DUE too: then others that are not SETTLED")
    private static void firstNotSettledAndDue() {
        TrueWeights x = shakenLand();
        x.thing(SCALE, 0, 1, 0);
        x.trial(3, 0, 400, 0);
        x.trial(4, 0, 100000, 0);
        x.pass(4001);
        due("not settled, due", x.first(0), 2);
        due("due, most", x.first(1), 4);
        due("due", x.first(2), 3);
    }

    @Says(promise = 23, words = "by the ERROR's size and the SPAN on THE DAY less the ALLOWANCE, most first; of like ones the lesser number")
    private static void firstByExcess() {
        TrueWeights x = new TrueWeights();
        x.thing(SCALE, 0, 4000, 0);
        x.thing(SCALE, 1, 4000, 0);
        x.thing(PUMP, 0, 4000, 0);
        x.thing(ROOT, 0, 1, 0);
        x.trial(0, 3, -50, 0);
        x.trial(1, 3, 20, 29);
        draws(x, 2, 50, 50, 50);
        x.trial(2, 3, 0, 0);
        order(x, "50, 49, 50", 0, 2, 1);
        x.pass(100);
        order(x, "50, 50, 50", 0, 1, 2);
        x.pass(1);
        order(x, "50, 51, 50", 1, 0, 2);
        x.allow(PUMP, true, 99);
        order(x, "50, 51, 51", 1, 2, 0);
        x.allow(PUMP, true, 98);
        order(x, "50, 51, 52", 2, 1, 0);
        x.trial(0, 3, -150, 2);
        order(x, "in use: 52 less 100, so like the pump", 0, 2, 1);
    }

    @Says(promise = 23, words = "within each of the last three: most first; of like ones the lesser number")
    private static void firstWithinGroups() {
        TrueWeights x = new TrueWeights();
        x.thing(ROOT, 0, 1, 0);
        x.thing(STANDARD, 0, 4000, 0);
        for (int n = 2; n <= 10; n++) x.thing(SCALE, 0, n <= 7 ? 1 : 4000, 0);
        x.trial(1, 0, 0, 0);
        int[] readings = {4, -5, 5};
        for (int n = 2; n <= 10; n++) x.trial(n, n <= 4 ? 1 : 0, readings[(n - 2) % 3], 0);
        x.trial(1, 0, 1, 0);
        x.pass(2);
        order(x, "not settled, due, others", 3, 4, 2, 6, 7, 5, 9, 10, 8, NONE);
    }

    private static void order(TrueWeights x, String call, int... want) {
        for (int i = 0; i < want.length; i++) due(call + ", first(" + i + ")", x.first(i), want[i]);
    }

    @Says(promise = 24, words = "count: 0 .. 7; OUTSIDE")
    private static void countWhat() {
        TrueWeights x = lastDay();
        due("what 0", x.count(0), 20000);
        due("what 7", x.count(7), 0);
        for (int what : new int[] {-1, 8, LEAST, MOST}) due("what " + what, x.count(what), OUTSIDE);
    }

    @Says(promise = 24, words = "3 THINGS that are DUE, STANDARDS too; 4 .. 6 SCALES and PUMPS only")
    private static void countOfKinds() {
        TrueWeights x = land();
        due("DUE, all but the root", x.count(3), 3);
        for (int reading : new int[] {0, 300}) {
            x.trial(1, 0, reading, 0);
            for (int what = 4; what <= 6; what++) due("a standard alone, what " + what, x.count(what), 0);
        }
        due("DUE, without the standard", x.count(3), 2);
        x.trial(2, 0, 100, 0);
        draws(x, 3, 100, 100, 101);
        x.trial(3, 0, 0, 0);
        due("GOOD", x.count(4), 1);
        due("NOT SURE", x.count(5), 1);
        due("WRONG", x.count(6), 0);
        due("not settled is none of them", shakenLand().count(6), 0);
    }

    @Says(promise = 16, words = "How many TRIALS are UNSETTLED: none of none")
    private static void unsettledOfNone() {
        TrueWeights x = land();
        due("no trials", x.unsettled(), 0);
        x.trial(1, 0, 0, 0);
        x.trial(1, 0, 1, 0);
        due("found wronged, nothing based on it", x.unsettled(), 0);
        due("one found wronged", x.told(1, 6), 1);
    }
}
