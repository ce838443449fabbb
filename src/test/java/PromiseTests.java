import java.util.ArrayList;
import java.util.List;

/** For each promise of the document: ordinary inputs, the edges that it names, wrong inputs. */
public final class PromiseTests {
    private static final int UNKNOWN = -1, OUTSIDE = -2, STATE = -3, FULL = -4, NONE = -1000000;
    private static final int ROOT = 0, STANDARD = 1, SCALE = 2, PUMP = 3;
    private static final int[] FAR = {Integer.MIN_VALUE, Integer.MIN_VALUE + 1, -1, Integer.MAX_VALUE - 1, Integer.MAX_VALUE};

    private static final List<String> wrong = new ArrayList<>();
    private static String at = "";

    private static void due(String call, long got, long want) {
        if (got != want) wrong.add(at + ": " + call + " answered " + got + ", due is " + want);
    }

    public static void main(String[] args) {
        newObject();
        pass();
        thing();
        about();
        draw();
        allow();
        move();
        trialRefusals();
        trialSums();
        trialFull();
        trialByWhom();
        wronged();
        wrongedEdges();
        wrongedJustSince();
        wrongedItself();
        told();
        errorAndSpan();
        settled();
        dueAndLeft();
        chain();
        judge();
        stays();
        staysLongChain();
        seal();
        sealBroken();
        charge();
        chargeOwners();
        first();
        firstGroups();
        count();
        fullLand();
        refusedChangesNothing();
        for (String line : wrong) System.out.println(line);
        System.out.println(wrong.isEmpty() ? "all answers are as due" : wrong.size() + " answers are not as due");
        if (!wrong.isEmpty()) System.exit(1);
    }

    /** Thing 0 a root, 1 a standard, 2 a scale, 3 a pump, none of which drifts. */
    private static TrueWeights land() {
        TrueWeights x = new TrueWeights();
        x.thing(ROOT, 0, 1, 0);
        x.thing(STANDARD, 0, 4000, 1);
        x.thing(SCALE, 0, 4000, 2);
        x.thing(PUMP, 0, 4000, 3);
        return x;
    }

    private static void draws(TrueWeights x, int pump, int a, int b, int c) {
        x.draw(pump, a);
        x.draw(pump, b);
        x.draw(pump, c);
    }

    private static void newObject() {
        at = "promise 1";
        TrueWeights x = new TrueWeights();
        for (int what = 0; what <= 7; what++) due("count(" + what + ")", x.count(what), 0);
        due("unsettled", x.unsettled(), 0);
        due("first", x.first(0), NONE);
        due("about", x.about(0, 0), UNKNOWN);
        due("told", x.told(0, 0), UNKNOWN);
        for (int owner = 0; owner < 10; owner++) due("charged", x.charged(owner), 0);
        due("sealed", x.sealed(1), NONE);
        TrueWeights y = new TrueWeights();
        y.thing(ROOT, 0, 1, 0);
        due("another object's count", x.count(1), 0);
    }

    private static void pass() {
        at = "promise 2";
        TrueWeights x = new TrueWeights();
        due("pass(1)", x.pass(1), 1);
        due("pass(5000)", x.pass(5000), 5001);
        due("pass(0)", x.pass(0), OUTSIDE);
        due("pass(5001)", x.pass(5001), OUTSIDE);
        for (int n : FAR) due("pass", x.pass(n), OUTSIDE);
        x.pass(5000);
        x.pass(5000);
        due("pass to 19999", x.pass(4998), 19999);
        due("pass to 20001", x.pass(2), FULL);
        due("day after a refusal", x.count(0), 19999);
        due("pass to 20000", x.pass(1), 20000);
        due("pass to 20001", x.pass(1), FULL);
        due("OUTSIDE ahead of FULL", x.pass(5001), OUTSIDE);
    }

    private static void thing() {
        at = "promise 3";
        TrueWeights x = new TrueWeights();
        due("least", x.thing(0, 0, 1, 0), 0);
        due("most", x.thing(3, 100, 4000, 9), 1);
        due("kind 4", x.thing(4, 0, 1, 0), OUTSIDE);
        due("drift 101", x.thing(1, 101, 1, 0), OUTSIDE);
        due("period 0", x.thing(1, 0, 0, 0), OUTSIDE);
        due("period 4001", x.thing(1, 0, 4001, 0), OUTSIDE);
        due("owner 10", x.thing(1, 0, 1, 10), UNKNOWN);
        for (int n : FAR) {
            due("kind", x.thing(n, 0, 1, 0), OUTSIDE);
            due("drift", x.thing(1, n, 1, 0), OUTSIDE);
            due("period", x.thing(1, 0, n, 0), OUTSIDE);
            due("owner", x.thing(1, 0, 1, n), UNKNOWN);
            due("OUTSIDE ahead of UNKNOWN", x.thing(1, 0, n, n), OUTSIDE);
        }
        due("things", x.count(1), 2);
        for (int n = 2; n < 40; n++) due("thing", x.thing(SCALE, 1, 1, 1), n);
        due("thing 40", x.thing(SCALE, 1, 1, 1), FULL);
        due("OUTSIDE ahead of FULL", x.thing(4, 1, 1, 1), OUTSIDE);
        due("UNKNOWN ahead of FULL", x.thing(SCALE, 1, 1, 10), UNKNOWN);
        due("things", x.count(1), 40);
    }

    private static void about() {
        at = "promise 4";
        TrueWeights x = new TrueWeights();
        x.thing(ROOT, 0, 1, 0);
        x.thing(SCALE, 17, 333, 4);
        int[] untried = {SCALE, 17, 333, 4, 0, NONE, NONE, 0};
        for (int what = 0; what <= 7; what++) due("about " + what, x.about(1, what), untried[what]);
        x.trial(1, 0, 5, 0);
        x.seal(1, 77);
        int[] sealed = {SCALE, 17, 333, 4, 1, 0, 77, 0};
        for (int what = 0; what <= 7; what++) due("about " + what, x.about(1, what), sealed[what]);
        x.trial(1, 0, 500, 0);
        x.charge(1);
        x.move(1, 8);
        int[] fined = {SCALE, 17, 333, 8, 2, 1, NONE, 1};
        for (int what = 0; what <= 7; what++) due("about " + what, x.about(1, what), fined[what]);
        int[] root = {ROOT, 0, 1, 0, 0, NONE, NONE, 0};
        for (int what = 0; what <= 7; what++) due("about root " + what, x.about(0, what), root[what]);
        due("what 8", x.about(1, 8), OUTSIDE);
        due("thing 2", x.about(2, 0), UNKNOWN);
        due("UNKNOWN ahead of OUTSIDE", x.about(2, 8), UNKNOWN);
        for (int n : FAR) {
            due("what", x.about(1, n), OUTSIDE);
            due("thing", x.about(n, 0), UNKNOWN);
        }
    }

    private static void draw() {
        at = "promise 5";
        TrueWeights x = land();
        due("least", x.draw(3, -100000), 1);
        due("most", x.draw(3, 100000), 2);
        due("below", x.draw(3, -100001), OUTSIDE);
        due("above", x.draw(3, 100001), OUTSIDE);
        due("third", x.draw(3, 0), 3);
        due("fourth", x.draw(3, 0), FULL);
        due("OUTSIDE ahead of FULL", x.draw(3, 100001), OUTSIDE);
        due("thing 4", x.draw(4, 0), UNKNOWN);
        due("UNKNOWN ahead of OUTSIDE", x.draw(4, 100001), UNKNOWN);
        for (int kind = ROOT; kind <= SCALE; kind++) {
            due("no pump", x.draw(kind, 0), STATE);
            due("OUTSIDE ahead of STATE", x.draw(kind, 100001), OUTSIDE);
        }
        due("refused trial", x.trial(3, 2, 0, 0), STATE);
        due("draws kept by a refused trial", x.draw(3, 0), FULL);
        x.trial(3, 0, 0, 0);
        due("first of the next", x.draw(3, 1), 1);
        due("trial with one draw", x.trial(3, 0, 0, 0), STATE);
        x.draw(3, 2);
        due("trial with two draws", x.trial(3, 0, 0, 0), STATE);
        x.move(3, 0);
        due("draws kept by a move", x.draw(3, 3), 3);
        due("trial", x.trial(3, 0, 0, 0), 1);
        due("error", x.error(3), 2);
    }

    private static void allow() {
        at = "promise 6";
        TrueWeights x = land();
        for (int kind = STANDARD; kind <= PUMP; kind++) {
            due("new at first", x.allow(kind, true, 0), 100);
            due("in use at first", x.allow(kind, false, 100000), 200);
        }
        for (int kind = STANDARD; kind <= PUMP; kind++) {
            due("new", x.allow(kind, true, 10 + kind), 0);
            due("in use", x.allow(kind, false, 20 + kind), 100000);
        }
        for (int kind = STANDARD; kind <= PUMP; kind++) {
            due("v -1", x.allow(kind, true, -1), OUTSIDE);
            due("v 100001", x.allow(kind, false, 100001), OUTSIDE);
            due("new", x.allow(kind, true, 1), 10 + kind);
            due("in use", x.allow(kind, false, 1), 20 + kind);
        }
        due("root", x.allow(ROOT, true, 1), OUTSIDE);
        due("kind 4", x.allow(4, false, 1), OUTSIDE);
        for (int n : FAR) {
            due("kind", x.allow(n, true, 1), OUTSIDE);
            due("v", x.allow(1, false, n), OUTSIDE);
        }
    }

    private static void move() {
        at = "promise 7";
        TrueWeights x = land();
        due("scale", x.move(2, 9), 2);
        due("pump", x.move(3, 0), 3);
        due("owner", x.about(2, 3), 9);
        due("owner", x.about(3, 3), 0);
        due("to the same one", x.move(2, 9), 9);
        due("root", x.move(0, 1), STATE);
        due("standard", x.move(1, 1), STATE);
        due("standard's owner", x.about(1, 3), 1);
        due("owner 10", x.move(2, 10), UNKNOWN);
        due("UNKNOWN ahead of STATE", x.move(0, 10), UNKNOWN);
        due("thing 4", x.move(4, 0), UNKNOWN);
        for (int n : FAR) {
            due("thing", x.move(n, 0), UNKNOWN);
            due("owner", x.move(2, n), UNKNOWN);
        }
        due("owner after refusals", x.about(2, 3), 9);
    }

    private static void trialRefusals() {
        at = "promise 8, refusals";
        TrueWeights x = land();
        for (int n : FAR) {
            due("thing", x.trial(n, 0, 0, 0), UNKNOWN);
            due("by", x.trial(1, n, 0, 0), UNKNOWN);
            due("fineness", x.trial(1, 0, 0, n), OUTSIDE);
            due("UNKNOWN ahead of OUTSIDE", x.trial(1, n, n, n), UNKNOWN);
            due("a pump's reading", x.trial(3, 0, n, 0), STATE);
            due("a pump's fineness", x.trial(3, 0, 0, n), OUTSIDE);
        }
        for (int n : new int[] {Integer.MIN_VALUE, -100001, 100001, Integer.MAX_VALUE}) {
            due("reading", x.trial(1, 0, n, 0), OUTSIDE);
            due("a root's reading", x.trial(0, 0, n, 0), OUTSIDE);
        }
        due("by 4", x.trial(1, 4, 0, 0), UNKNOWN);
        due("fineness 100001", x.trial(1, 0, 0, 100001), OUTSIDE);
        due("root by root", x.trial(0, 0, 0, 0), STATE);
        x.thing(ROOT, 0, 1, 0);
        due("root by another root", x.trial(4, 0, 0, 0), STATE);
        due("pump without draws", x.trial(3, 0, 0, 0), STATE);
        due("by a standard without a trial", x.trial(2, 1, 0, 0), STATE);
        due("trials", x.count(2), 0);
        due("by another root", x.trial(1, 4, 0, 0), 0);
        due("the same", x.trial(1, 1, 0, 0), STATE);
        due("OUTSIDE ahead of STATE", x.trial(1, 1, 0, -1), OUTSIDE);
        due("a scale", x.trial(2, 0, 0, 0), 1);
        draws(x, 3, 0, 0, 0);
        due("a pump", x.trial(3, 0, Integer.MIN_VALUE, 0), 2);
        due("by a scale", x.trial(1, 2, 0, 0), STATE);
        due("by a pump", x.trial(1, 3, 0, 0), STATE);
        due("root by a standard", x.trial(0, 1, 0, 0), STATE);
    }

    private static void trialSums() {
        at = "promise 8, sums";
        TrueWeights x = new TrueWeights();
        x.thing(ROOT, 100, 1, 0);
        x.thing(STANDARD, 33, 4000, 0);
        x.thing(SCALE, 7, 4000, 0);
        x.thing(PUMP, 100, 4000, 0);
        x.pass(4000);
        due("by a root that drifts", x.trial(1, 0, -40, 6), 0);
        due("error", x.told(0, 3), -40);
        due("span", x.told(0, 4), 6);
        x.pass(4);
        due("by a standard", x.trial(2, 1, 15, 2), 1);
        due("error", x.told(1, 3), -25);
        due("span with 132 / 100 cut up", x.told(1, 4), 6 + 2 + 2);
        int[][] orders = {{1, 5, 12}, {1, 12, 5}, {5, 1, 12}, {5, 12, 1}, {12, 1, 5}, {12, 5, 1}};
        for (int[] o : orders) {
            draws(x, 3, o[0], o[1], o[2]);
            int t = x.trial(3, 1, 99999, 3);
            due("middle draw", x.told(t, 3), -40 + 5);
            due("spread", x.told(t, 4), 8 + 3 + 11);
        }
        draws(x, 3, -100000, 100000, 100000);
        int t = x.trial(3, 0, 0, 100000);
        due("greatest twice", x.told(t, 3), 100000);
        due("widest", x.told(t, 4), 300000);
        draws(x, 3, -7, -7, -7);
        t = x.trial(3, 0, 0, 0);
        due("all alike", x.told(t, 3), -7);
        due("all alike", x.told(t, 4), 0);
        due("edges of reading", x.told(x.trial(2, 0, -100000, 0), 3), -100000);
        due("edges of reading", x.told(x.trial(2, 0, 100000, 0), 3), 100000);
    }

    private static void trialFull() {
        at = "promise 8, FULL";
        TrueWeights x = land();
        for (int n = 0; n < 299; n++) due("trial", x.trial(2, 0, n % 2, 1), n);
        draws(x, 3, 1, 2, 3);
        due("trial 299", x.trial(1, 0, 0, 0), 299);
        due("trial 300", x.trial(2, 0, 0, 0), FULL);
        due("STATE ahead of FULL", x.trial(2, 2, 0, 0), STATE);
        due("OUTSIDE ahead of FULL", x.trial(2, 0, 0, -1), OUTSIDE);
        due("UNKNOWN ahead of FULL", x.trial(4, 0, 0, 0), UNKNOWN);
        due("pump", x.trial(3, 0, 0, 0), FULL);
        due("draws are kept", x.draw(3, 0), FULL);
        due("trials", x.count(2), 300);
        due("trials of it", x.about(2, 4), 299);
        due("the latest", x.about(2, 5), 298);
        due("the last one", x.told(299, 0), 1);
        due("beyond", x.told(300, 0), UNKNOWN);
    }

    private static void trialByWhom() {
        at = "promise 8, by whom";
        TrueWeights x = new TrueWeights();
        x.thing(ROOT, 0, 1, 0);
        x.thing(STANDARD, 0, 10, 0);
        x.thing(STANDARD, 0, 4000, 0);
        x.thing(SCALE, 0, 1, 0);
        x.trial(1, 0, 0, 0);
        x.pass(10);
        due("on the last day", x.trial(3, 1, 0, 0), 1);
        x.pass(1);
        due("by one that is due", x.trial(3, 1, 0, 0), STATE);
        due("by a root of period 1", x.trial(3, 0, 0, 0), 2);
        x.trial(1, 0, 0, 0);
        due("tried again", x.trial(2, 1, 0, 0), 4);
        x.trial(1, 0, 9, 0);
        due("the one found wronged is settled by its new trial", x.settled(1), 1);
        due("by one that is not settled", x.trial(3, 2, 0, 0), STATE);
        due("by the one found wronged", x.trial(3, 1, 0, 0), 6);
        due("its error", x.error(3), 9);
    }

    private static void wronged() {
        at = "promise 8 and 16, wronged";
        TrueWeights x = new TrueWeights();
        x.thing(ROOT, 0, 1, 0);
        for (int n = 1; n <= 4; n++) x.thing(STANDARD, 0, 4000, 0);
        x.thing(SCALE, 0, 4000, 0);
        x.trial(1, 0, 0, 1);
        x.trial(2, 1, 0, 0);
        x.trial(3, 2, 0, 0);
        x.trial(4, 3, 0, 0);
        x.trial(5, 4, 0, 0);
        x.trial(4, 0, 0, 0);
        due("trial 5 finds nothing", x.told(5, 6), 0);
        due("none yet", x.unsettled(), 0);
        due("wronging one", x.trial(1, 0, 50, 1), 6);
        due("found", x.told(6, 6), 1);
        int[] stands = {1, 0, 0, 0, 0, 1, 1};
        for (int t = 0; t < stands.length; t++) due("trial " + t + " settled", x.told(t, 5), stands[t]);
        due("unsettled", x.unsettled(), 4);
        int[] settled = {1, 1, 0, 0, 1, 0};
        for (int n = 0; n < settled.length; n++) due("thing " + n + " settled", x.settled(n), settled[n]);
        due("an unsettled one is never found wronged", x.told(x.trial(2, 0, 99999, 0), 6), 0);
        due("what was based stays unsettled", x.settled(3), 0);
        due("unsettled", x.unsettled(), 4);
        due("for good", x.told(1, 5), 0);
        x.trial(1, 0, 50, 1);
        due("for good", x.told(2, 5), 0);
        due("by what is settled again", x.trial(5, 2, 0, 0), 9);
        due("thing 5", x.settled(5), 1);
    }

    private static void wrongedEdges() {
        at = "promise 8, spans that touch";
        for (int sign = -1; sign <= 1; sign += 2) {
            TrueWeights x = new TrueWeights();
            x.thing(ROOT, 0, 1, 0);
            x.thing(SCALE, 10, 4000, 0);
            x.trial(1, 0, 0, 5);
            due("first trial finds nothing", x.told(0, 6), 0);
            due("one number in common", x.told(x.trial(1, 0, sign * 12, 7), 6), 0);
            due("none in common", x.told(x.trial(1, 0, -sign * 3, 7), 6), 1);
        }
        TrueWeights y = new TrueWeights();
        y.thing(ROOT, 0, 1, 0);
        y.thing(SCALE, 10, 4000, 0);
        y.trial(1, 0, 0, 5);
        y.pass(11);
        due("the span of the day", y.told(y.trial(1, 0, 7, 0), 6), 0);
        y.pass(11);
        due("the span of the day", y.told(y.trial(1, 0, 10, 0), 6), 1);
    }

    private static void wrongedJustSince() {
        at = "promise 8, just what was tried since";
        TrueWeights x = new TrueWeights();
        x.thing(ROOT, 0, 1, 0);
        x.thing(STANDARD, 0, 4000, 0);
        for (int n = 2; n <= 4; n++) x.thing(SCALE, 0, 4000, 0);
        x.trial(1, 0, 0, 1);
        x.trial(2, 1, 0, 0);
        x.trial(1, 0, 1, 1);
        x.trial(3, 1, 0, 0);
        x.trial(1, 0, 90, 1);
        x.trial(4, 1, 0, 0);
        due("tried ahead of the good trial", x.settled(2), 1);
        due("tried since", x.settled(3), 0);
        due("tried after it was found", x.settled(4), 1);
        due("unsettled", x.unsettled(), 1);
    }

    private static void wrongedItself() {
        at = "promise 8, the new trial is one of them";
        TrueWeights x = new TrueWeights();
        x.thing(ROOT, 0, 1, 0);
        for (int n = 1; n <= 3; n++) x.thing(STANDARD, 0, 4000, 0);
        x.trial(1, 0, 0, 0);
        x.trial(2, 1, 0, 0);
        x.trial(3, 2, 0, 0);
        x.trial(1, 3, 9, 0);
        due("found", x.told(3, 6), 1);
        due("the one ahead stays", x.told(0, 5), 1);
        due("the new one", x.told(3, 5), 0);
        due("unsettled", x.unsettled(), 3);
        due("settled", x.settled(1), 0);
        due("judge", x.judge(1), 0);
        TrueWeights y = new TrueWeights();
        y.thing(ROOT, 0, 1, 0);
        for (int n = 1; n <= 2; n++) y.thing(STANDARD, 0, 4000, 0);
        y.trial(1, 0, 0, 0);
        y.trial(2, 1, 0, 0);
        y.trial(1, 0, 0, 0);
        y.trial(1, 2, 9, 0);
        due("based on an older one of its own", y.told(3, 5), 1);
        due("unsettled", y.unsettled(), 0);
    }

    private static void told() {
        at = "promise 9";
        TrueWeights x = land();
        x.trial(1, 0, 11, 2);
        x.pass(9);
        x.trial(2, 1, -30, 4);
        x.pass(1);
        x.trial(1, 0, 60, 5);
        int[][] want = {{1, 0, 0, 11, 2, 1, 0, NONE}, {2, 1, 9, -19, 6, 0, 0, 0}, {1, 0, 10, 60, 5, 1, 1, NONE}};
        for (int t = 0; t < 3; t++) {
            for (int what = 0; what <= 7; what++) due("told(" + t + ", " + what + ")", x.told(t, what), want[t][what]);
        }
        due("trial 3", x.told(3, 0), UNKNOWN);
        due("what 8", x.told(0, 8), OUTSIDE);
        due("UNKNOWN ahead of OUTSIDE", x.told(3, 8), UNKNOWN);
        for (int n : FAR) {
            due("trial", x.told(n, 0), UNKNOWN);
            due("what", x.told(0, n), OUTSIDE);
        }
    }

    private static void errorAndSpan() {
        at = "promises 10 and 11";
        TrueWeights x = new TrueWeights();
        x.thing(ROOT, 100, 1, 0);
        x.thing(SCALE, 3, 1, 0);
        x.thing(SCALE, 100, 1, 0);
        x.pass(500);
        due("a root's error", x.error(0), 0);
        due("a root's span", x.span(0), 0);
        due("without a trial", x.error(1), NONE);
        due("without a trial", x.span(1), NONE);
        x.trial(1, 0, -8, 4);
        x.trial(2, 0, 8, 4);
        due("span", x.span(1), 4);
        x.pass(1);
        due("3 / 100 cut up", x.span(1), 5);
        due("100 / 100", x.span(2), 5);
        x.pass(32);
        due("99 / 100 cut up", x.span(1), 5);
        x.pass(1);
        due("102 / 100 cut up", x.span(1), 6);
        x.pass(66);
        due("300 / 100", x.span(1), 7);
        due("100 days", x.span(2), 104);
        due("the trial's own span stays", x.told(0, 4), 4);
        due("error", x.error(1), -8);
        x.trial(1, 0, 2, 1);
        due("the latest", x.error(1), 2);
        due("the latest", x.span(1), 1);
        due("thing 3", x.error(3), UNKNOWN);
        due("thing 3", x.span(3), UNKNOWN);
        for (int n : FAR) {
            due("error", x.error(n), UNKNOWN);
            due("span", x.span(n), UNKNOWN);
        }
    }

    private static void settled() {
        at = "promise 12";
        TrueWeights x = land();
        int[] untried = {1, 0, 0, 0};
        for (int n = 0; n < 4; n++) due("untried", x.settled(n), untried[n]);
        x.trial(1, 0, 0, 0);
        x.trial(2, 1, 0, 0);
        due("tried", x.settled(2), 1);
        x.pass(4001);
        due("due, still settled", x.settled(2), 1);
        x.trial(1, 0, 1, 0);
        due("by a wrong one", x.settled(2), 0);
        x.trial(2, 1, 0, 0);
        due("tried again", x.settled(2), 1);
        due("thing 4", x.settled(4), UNKNOWN);
        for (int n : FAR) due("settled", x.settled(n), UNKNOWN);
    }

    private static void dueAndLeft() {
        at = "promises 13 and 14";
        TrueWeights x = new TrueWeights();
        x.thing(ROOT, 0, 1, 0);
        x.thing(SCALE, 0, 10, 0);
        due("root", x.due(0), 0);
        due("root", x.left(0), NONE);
        due("untried", x.due(1), 1);
        due("untried", x.left(1), 0);
        x.pass(7);
        x.trial(1, 0, 0, 0);
        due("tried", x.due(1), 0);
        due("tried", x.left(1), 11);
        x.pass(10);
        due("10 days ago", x.due(1), 0);
        due("10 days ago", x.left(1), 1);
        x.pass(1);
        due("11 days ago", x.due(1), 1);
        due("11 days ago", x.left(1), 0);
        x.pass(100);
        due("long ago", x.due(1), 1);
        due("long ago", x.left(1), 0);
        due("root", x.due(0), 0);
        due("root", x.left(0), NONE);
        x.thing(STANDARD, 0, 4000, 0);
        for (int n = 0; n < 3; n++) x.pass(5000);
        x.pass(4000);
        x.trial(2, 0, 0, 0);
        due("beyond the last day", x.left(2), 4001);
        due("thing 3", x.due(3), UNKNOWN);
        due("thing 3", x.left(3), UNKNOWN);
        for (int n : FAR) {
            due("due", x.due(n), UNKNOWN);
            due("left", x.left(n), UNKNOWN);
        }
    }

    private static void chain() {
        at = "promise 15";
        TrueWeights x = land();
        x.thing(STANDARD, 0, 4000, 0);
        due("root", x.chain(0, 0), NONE);
        due("untried", x.chain(2, 0), NONE);
        x.trial(1, 0, 0, 0);
        x.trial(4, 1, 0, 0);
        x.trial(2, 4, 0, 0);
        x.trial(1, 0, 0, 0);
        due("link 0", x.chain(2, 0), 2);
        due("link 1", x.chain(2, 1), 1);
        due("link 2 is the one of then", x.chain(2, 2), 0);
        due("link 3", x.chain(2, 3), NONE);
        due("link 300", x.chain(2, 300), NONE);
        for (int n : FAR) {
            due("link", x.chain(2, n), NONE);
            due("thing", x.chain(n, 0), UNKNOWN);
        }
        due("thing 5", x.chain(5, 0), UNKNOWN);
        due("thing 5", x.chain(5, -1), UNKNOWN);
        TrueWeights y = new TrueWeights();
        y.thing(ROOT, 0, 1, 0);
        y.thing(STANDARD, 0, 1, 0);
        y.thing(STANDARD, 0, 1, 0);
        y.trial(1, 0, 0, 0);
        for (int n = 1; n < 300; n++) y.trial(1 + n % 2, 2 - n % 2, 0, 0);
        due("longest", y.chain(2, 299), 0);
        due("longest", y.chain(2, 298), 1);
        due("longest", y.chain(1, 298), 0);
        due("longest", y.chain(1, 299), NONE);
        due("longest", y.chain(2, 300), NONE);
    }

    private static void judge() {
        at = "promise 17";
        for (int kind = STANDARD; kind <= PUMP; kind++) {
            for (int sign = -1; sign <= 1; sign += 2) {
                TrueWeights x = land();
                due("untried", x.judge(kind), 0);
                int[][] cases = {{90, 10, 1}, {90, 11, 2}, {111, 10, 3}, {110, 10, 2}, {0, 100, 1}, {0, 101, 2}, {0, 0, 1}, {101, 0, 3}, {100, 0, 1}};
                for (int[] c : cases) {
                    TrueWeights y = land();
                    draws(y, 3, sign * c[0], sign * c[0], sign * c[0]);
                    y.trial(kind, 0, sign * c[0], c[1]);
                    due("new " + kind + " " + c[0] + " " + c[1], y.judge(kind), c[2]);
                }
                int[][] used = {{190, 10, 1}, {190, 11, 2}, {211, 10, 3}, {210, 10, 2}};
                for (int[] c : used) {
                    TrueWeights y = land();
                    for (int n = 0; n < 2; n++) {
                        draws(y, 3, sign * c[0], sign * c[0], sign * c[0]);
                        y.trial(kind, 0, sign * c[0], c[1]);
                    }
                    due("in use " + kind + " " + c[0] + " " + c[1], y.judge(kind), c[2]);
                }
            }
        }
        TrueWeights x = land();
        due("root", x.judge(0), 0);
        x.trial(1, 0, 0, 0);
        x.trial(2, 1, 150, 0);
        due("new", x.judge(2), 3);
        x.allow(SCALE, true, 149);
        due("still", x.judge(2), 3);
        x.allow(SCALE, true, 150);
        due("by the new law", x.judge(2), 1);
        x.trial(1, 0, 5, 0);
        due("not settled", x.judge(2), 0);
        due("thing 4", x.judge(4), UNKNOWN);
        for (int n : FAR) due("judge", x.judge(n), UNKNOWN);
        TrueWeights y = new TrueWeights();
        y.thing(ROOT, 0, 1, 0);
        y.thing(SCALE, 100, 1, 0);
        y.trial(1, 0, 99, 0);
        y.pass(1);
        due("good though due", y.judge(1), 1);
        y.pass(1);
        due("by the span of the day", y.judge(1), 2);
    }

    private static void stays() {
        at = "promise 18";
        TrueWeights x = new TrueWeights();
        x.thing(ROOT, 0, 1, 0);
        x.thing(SCALE, 7, 4000, 0);
        due("root", x.stays(0), NONE);
        due("untried", x.stays(1), NONE);
        for (int error : new int[] {95, -95, 100, -100, 0, 300, -300, 101, 102, 99}) {
            TrueWeights y = new TrueWeights();
            y.thing(ROOT, 0, 1, 0);
            y.thing(SCALE, 7, 4000, 0);
            y.trial(1, 0, error, 0);
            y.pass(3);
            int judged = y.judge(1);
            int stays = y.stays(1);
            // An object answers for 512 calls only, so the days between are taken in strides.
            int stride = Math.max(1, stays / 100);
            int last = Math.min(stays, 19997);
            int gone = 0;
            while (gone < last) {
                int days = Math.min(stride, last - gone);
                y.pass(days);
                gone += days;
                due("judged " + error + " after " + gone, y.judge(1), judged);
                due("stays", y.stays(1), judged == 2 ? 20000 : stays - gone);
            }
            if (judged != 2) {
                y.pass(1);
                due("judged " + error + " in the end", y.judge(1), 2);
            }
        }
        x.trial(1, 0, 98, 0);
        due("good, growing", x.stays(1), 200 / 7);
        x.pass(28);
        due("the last day", x.stays(1), 0);
        due("the last day", x.judge(1), 1);
        x.pass(1);
        due("not sure", x.judge(1), 2);
        due("not sure", x.stays(1), 20000);
        x.trial(1, 0, 203, 0);
        due("wrong", x.stays(1), 200 / 7);
        x.pass(29);
        due("not sure", x.judge(1), 2);
        x.thing(SCALE, 0, 1, 0);
        x.trial(2, 0, 100, 0);
        due("without drift", x.stays(2), 20000);
        x.trial(2, 0, 300, 0);
        due("wrong without drift", x.stays(2), 20000);
        x.thing(SCALE, 1, 1, 0);
        x.allow(SCALE, true, 200);
        x.trial(3, 0, 0, 0);
        due("just 20000", x.stays(3), 20000);
        x.pass(1);
        due("19999", x.stays(3), 19999);
        x.allow(SCALE, true, 100000);
        due("at most 20000", x.stays(3), 20000);
        due("thing 4", x.stays(4), UNKNOWN);
        for (int n : FAR) due("stays", x.stays(n), UNKNOWN);
        TrueWeights z = land();
        z.trial(1, 0, 0, 0);
        z.trial(2, 1, 0, 0);
        z.trial(1, 0, 9, 0);
        due("not settled", z.stays(2), NONE);
    }

    private static void staysLongChain() {
        at = "promises 18 and 21, the greatest error";
        TrueWeights x = new TrueWeights();
        x.thing(ROOT, 0, 1, 0);
        x.thing(STANDARD, 0, 4000, 0);
        x.thing(STANDARD, 0, 4000, 0);
        x.thing(SCALE, 100, 4000, 7);
        x.trial(1, 0, 100000, 0);
        // Each standard is tried once only, so that none can be found wronged.
        int last = 1;
        for (int n = 4; n < 39; n++) {
            x.thing(STANDARD, 0, 4000, 0);
            x.trial(n, last, 100000, 0);
            last = n;
        }
        x.trial(3, last, 100000, 0);
        due("error", x.error(3), 3700000);
        due("wrong", x.judge(3), 3);
        due("stays", x.stays(3), 20000);
        due("charge", x.charge(3), 36999000);
        x.pass(4000);
        due("span", x.span(3), 4000);
        due("stays", x.stays(3), 20000);
        TrueWeights y = new TrueWeights();
        y.thing(ROOT, 0, 1, 0);
        y.thing(STANDARD, 0, 1, 0);
        y.thing(STANDARD, 0, 1, 0);
        y.thing(SCALE, 1, 1, 9);
        y.trial(1, 0, 100000, 100000);
        // Two standards by one another: their spans grow with their errors, so that none is found wronged.
        for (int n = 1; n < 294; n++) y.trial(1 + n % 2, 2 - n % 2, 100000, 100000);
        for (int n = 0; n < 5; n++) y.trial(3, 2, -100000, 0);
        due("error", y.error(3), 29300000);
        due("span", y.span(3), 29400000);
        due("not sure", y.judge(3), 2);
        due("trials", y.count(2), 299);
    }

    private static void seal() {
        at = "promise 19";
        TrueWeights x = land();
        due("untried", x.seal(2, 1), STATE);
        x.trial(1, 0, 0, 0);
        x.trial(2, 1, 100, 0);
        draws(x, 3, 0, 0, 0);
        x.trial(3, 1, 0, 0);
        due("least", x.seal(2, 1), 1);
        due("most", x.seal(3, 9999), 1);
        due("number 0", x.seal(2, 0), OUTSIDE);
        due("number 10000", x.seal(2, 10000), OUTSIDE);
        due("root", x.seal(0, 5), STATE);
        due("standard", x.seal(1, 5), STATE);
        due("OUTSIDE ahead of STATE", x.seal(0, 0), OUTSIDE);
        due("UNKNOWN ahead of OUTSIDE", x.seal(4, 0), UNKNOWN);
        due("its own number", x.seal(2, 1), STATE);
        due("another's number", x.seal(2, 9999), STATE);
        for (int n : FAR) {
            due("thing", x.seal(n, 5), UNKNOWN);
            due("number", x.seal(2, n), OUTSIDE);
        }
        due("kept", x.about(2, 6), 1);
        due("number 5 is still free", x.seal(2, 5), 1);
        x.allow(SCALE, true, 99);
        due("wrong", x.judge(2), 3);
        due("wrong", x.seal(2, 6), STATE);
        x.allow(SCALE, true, 1000);
        for (int number = 10; number < 110; number++) due("seal", x.seal(2, number), 1);
        for (int number = 10; number < 110; number++) due("seal again", x.seal(2, number), STATE);
        x.trial(1, 0, 5, 0);
        due("not settled", x.seal(2, 7), STATE);
        TrueWeights y = land();
        y.trial(2, 0, 90, 20);
        due("not sure", y.seal(2, 7), STATE);
    }

    private static void sealBroken() {
        at = "promises 7, 19 and 20, broken seals";
        TrueWeights x = land();
        x.trial(1, 0, 0, 0);
        x.trial(2, 1, 0, 0);
        due("free", x.sealed(1), NONE);
        x.seal(2, 1);
        due("on", x.sealed(1), 2);
        x.trial(2, 1, 0, 0);
        due("kept by a like trial", x.sealed(1), 2);
        x.seal(2, 2);
        due("another one put on", x.sealed(1), NONE);
        due("another one put on", x.sealed(2), 2);
        due("another one put on", x.about(2, 6), 2);
        x.move(2, 2);
        due("moved", x.sealed(2), NONE);
        due("moved", x.about(2, 6), NONE);
        due("comes once", x.seal(2, 2), STATE);
        x.seal(2, 3);
        x.move(2, 10);
        due("kept by a refusal", x.sealed(3), 2);
        x.trial(2, 1, 9, 0);
        due("found wronged", x.sealed(3), NONE);
        due("found wronged", x.about(2, 6), NONE);
        x.seal(2, 4);
        x.trial(1, 0, 5, 0);
        due("kept when it becomes unsettled", x.sealed(4), 2);
        x.trial(2, 1, 99, 0);
        due("kept, it was not settled", x.sealed(4), 2);
        due("number 0", x.sealed(0), OUTSIDE);
        due("number 10000", x.sealed(10000), OUTSIDE);
        due("number 9999", x.sealed(9999), NONE);
        for (int n : FAR) due("number", x.sealed(n), OUTSIDE);
    }

    private static void charge() {
        at = "promise 21";
        TrueWeights x = land();
        x.trial(1, 0, 500, 0);
        due("standard", x.charge(1), STATE);
        due("root", x.charge(0), STATE);
        due("untried", x.charge(2), STATE);
        due("thing 4", x.charge(4), UNKNOWN);
        for (int n : FAR) due("charge", x.charge(n), UNKNOWN);
        x.trial(2, 0, 100, 0);
        due("good", x.charge(2), STATE);
        x.trial(2, 0, 200, 1);
        due("not sure", x.charge(2), STATE);
        x.trial(2, 0, -250, 7);
        due("below 0", x.charge(2), 10 * 43);
        due("twice by a trial", x.charge(2), STATE);
        x.trial(2, 0, -250, 7);
        due("the second", x.charge(2), 2 * 10 * 43);
        x.pass(1);
        due("not again on another day", x.charge(2), STATE);
        x.trial(2, 0, -250, 7);
        x.pass(1);
        due("not of the day", x.charge(2), STATE);
        int[] times = {3, 4, 5, 5, 5};
        for (int t : times) {
            x.trial(2, 0, 201, 0);
            due("times " + t, x.charge(2), 10 * t);
        }
        draws(x, 3, 150, 150, 153);
        x.trial(3, 0, 0, 4);
        due("a pump, new", x.charge(3), 10 * (150 - 7 - 100));
        due("about 7", x.about(2, 7), 7);
        due("about 7", x.about(3, 7), 1);
        due("count 7", x.count(7), 8);
        TrueWeights y = land();
        y.trial(1, 0, 0, 0);
        y.trial(2, 1, 500, 0);
        y.trial(1, 0, 9, 0);
        due("not settled", y.charge(2), STATE);
        due("none counted", y.count(7), 0);
    }

    private static void chargeOwners() {
        at = "promises 21 and 22, owners";
        TrueWeights x = new TrueWeights();
        x.thing(ROOT, 0, 1, 0);
        x.thing(SCALE, 0, 1, 4);
        x.thing(SCALE, 0, 1, 4);
        x.thing(SCALE, 0, 1, 5);
        for (int n = 1; n <= 3; n++) x.trial(n, 0, 200, 0);
        due("owner 4, first", x.charge(1), 1000);
        due("owner 4, second", x.charge(2), 2000);
        due("owner 5, first", x.charge(3), 1000);
        due("owner 4", x.charged(4), 3000);
        due("owner 5", x.charged(5), 1000);
        x.move(1, 5);
        due("owner 4 keeps its own", x.charged(4), 3000);
        due("owner 5 gets none", x.charged(5), 1000);
        due("no second one by that trial", x.charge(1), STATE);
        x.trial(1, 0, 300, 0);
        due("owner 5, second", x.charge(1), 2000);
        due("owner 5", x.charged(5), 3000);
        due("about 7 counts those of the thing", x.about(1, 7), 2);
        due("owner 0", x.charged(0), 0);
        due("owner 9", x.charged(9), 0);
        due("owner 10", x.charged(10), UNKNOWN);
        for (int n : FAR) due("owner", x.charged(n), UNKNOWN);
        TrueWeights y = hugeFines();
        due("a sum beyond an int", y.charged(9), hugeSum);
        if (hugeSum <= Integer.MAX_VALUE) wrong.add(at + ": the sum is not beyond an int");
    }

    private static long hugeSum;

    private static TrueWeights hugeFines() {
        TrueWeights y = new TrueWeights();
        y.thing(ROOT, 0, 1, 0);
        for (int n = 1; n <= 38; n++) y.thing(STANDARD, 0, 4000, 0);
        y.thing(SCALE, 0, 1, 9);
        for (int n = 1; n <= 38; n++) y.trial(n, n - 1, -100000, 0);
        hugeSum = 0;
        for (int n = 1; n <= 20; n++) {
            y.trial(39, 38, -100000, 0);
            long fine = 10L * (3900000 - (n == 1 ? 100 : 200)) * Math.min(n, 5);
            due("fine " + n, y.charge(39), fine);
            hugeSum += fine;
        }
        return y;
    }

    private static void first() {
        at = "promise 23";
        TrueWeights x = land();
        x.thing(SCALE, 0, 4000, 0);
        due("untried by number", x.first(0), 2);
        due("untried by number", x.first(1), 3);
        due("untried by number", x.first(2), 4);
        due("no more", x.first(3), NONE);
        for (int n : FAR) due("first", x.first(n), NONE);
        x.trial(2, 0, 0, 0);
        due("untried ahead", x.first(0), 3);
        due("untried ahead", x.first(1), 4);
        due("tried behind", x.first(2), 2);
        x.trial(4, 0, 0, 0);
        draws(x, 3, 0, 0, 0);
        x.trial(3, 0, 0, 0);
        for (int i = 0; i < 3; i++) due("like ones", x.first(i), 2 + i);
        x.trial(4, 0, -30, 40);
        due("in use, -130", x.first(2), 4);
        x.trial(4, 0, -130, 140);
        due("in use, 70", x.first(0), 4);
        x.allow(SCALE, false, 370);
        due("in use, -100 like the others", x.first(0), 2);
        due("in use, -100 like the others", x.first(2), 4);
        x.allow(PUMP, true, 99);
        due("pump, -99", x.first(0), 3);
    }

    private static void firstGroups() {
        at = "promise 23, groups";
        TrueWeights x = new TrueWeights();
        x.thing(ROOT, 0, 1, 0);
        x.thing(STANDARD, 0, 4000, 0);
        x.thing(SCALE, 0, 4000, 0);
        x.thing(SCALE, 0, 1, 0);
        x.thing(SCALE, 0, 1, 0);
        x.thing(SCALE, 0, 4000, 0);
        x.thing(SCALE, 0, 1, 0);
        x.thing(SCALE, 100, 4000, 0);
        x.thing(SCALE, 0, 4000, 0);
        x.thing(STANDARD, 0, 1, 0);
        x.trial(1, 0, 0, 0);
        x.trial(2, 0, 90000, 0);
        x.trial(3, 0, 5, 0);
        x.trial(4, 0, -6, 0);
        x.trial(5, 1, 1, 0);
        x.trial(6, 1, 2, 0);
        x.trial(7, 0, 89990, 0);
        x.trial(1, 0, 9, 0);
        x.pass(9);
        int[] before = {8, 6, 5, 4, 3, 2, 7};
        for (int i = 0; i < before.length; i++) due("first(" + i + ")", x.first(i), before[i]);
        x.pass(1);
        int[] alike = {8, 6, 5, 4, 3, 2, 7};
        for (int i = 0; i < alike.length; i++) due("first(" + i + ")", x.first(i), alike[i]);
        x.pass(1);
        int[] after = {8, 6, 5, 4, 3, 7, 2};
        for (int i = 0; i < after.length; i++) due("first(" + i + ")", x.first(i), after[i]);
        due("no more", x.first(7), NONE);
    }

    private static void count() {
        at = "promise 24";
        TrueWeights x = land();
        x.thing(SCALE, 100, 5, 0);
        x.thing(SCALE, 0, 5, 0);
        int[] untried = {0, 6, 0, 5, 0, 0, 0, 0};
        for (int what = 0; what <= 7; what++) due("count(" + what + ")", x.count(what), untried[what]);
        x.trial(1, 0, 0, 0);
        x.trial(2, 1, 100, 0);
        x.trial(4, 0, 100, 0);
        x.trial(5, 0, 300, 0);
        draws(x, 3, 0, 150, 0);
        x.trial(3, 0, 0, 0);
        x.charge(5);
        int[] tried = {0, 6, 5, 0, 2, 1, 1, 1};
        for (int what = 0; what <= 7; what++) due("count(" + what + ")", x.count(what), tried[what]);
        x.pass(6);
        int[] later = {6, 6, 5, 2, 1, 2, 1, 1};
        for (int what = 0; what <= 7; what++) due("count(" + what + ")", x.count(what), later[what]);
        x.trial(1, 0, 9, 0);
        int[] shaken = {6, 6, 6, 2, 0, 2, 1, 1};
        for (int what = 0; what <= 7; what++) due("count(" + what + ")", x.count(what), shaken[what]);
        due("what 8", x.count(8), OUTSIDE);
        for (int n : FAR) due("what", x.count(n), OUTSIDE);
    }

    private static void fullLand() {
        at = "a land with all its things";
        TrueWeights x = new TrueWeights();
        for (int n = 0; n < 40; n++) x.thing(SCALE + n % 2, 1, 1, n % 10);
        for (int n = 0; n < 40; n++) due("first(" + n + ")", x.first(n), n);
        for (int n = 40; n <= 42; n++) {
            due("first(" + n + ")", x.first(n), NONE);
            due("about(" + n + ", 0)", x.about(n, 0), UNKNOWN);
            due("trial(" + n + ")", x.trial(n, 0, 0, 0), UNKNOWN);
            due("seal(" + n + ")", x.seal(n, 1), UNKNOWN);
        }
        due("due", x.count(3), 40);
        TrueWeights y = new TrueWeights();
        y.thing(ROOT, 0, 1, 0);
        for (int n = 1; n < 40; n++) y.thing(SCALE, 0, 4000, 0);
        for (int n = 1; n < 40; n++) y.trial(n, 0, n, 0);
        for (int n = 1; n < 40; n++) due("first", y.first(n - 1), 40 - n);
        due("good", y.count(4), 39);
        y.seal(39, 9999);
        due("sealed", y.sealed(9999), 39);
    }

    private static void refusedChangesNothing() {
        at = "what is refused changes nothing";
        TrueWeights x = land();
        x.trial(1, 0, 0, 0);
        x.trial(2, 1, 0, 0);
        x.seal(2, 8);
        x.draw(3, 5);
        String before = state(x);
        x.pass(0);
        x.thing(1, 0, 1, 10);
        x.draw(3, 100001);
        x.draw(2, 0);
        x.allow(0, true, 3);
        x.allow(1, true, -3);
        x.move(2, 10);
        x.move(1, 3);
        x.trial(2, 0, 100001, 0);
        x.trial(2, 2, 500, 0);
        x.trial(3, 1, 0, 0);
        x.seal(2, 8);
        x.seal(2, 0);
        x.seal(1, 9);
        x.charge(2);
        if (!before.equals(state(x))) wrong.add(at + ": " + before + " became " + state(x));
        due("draws", x.draw(3, 6), 2);
        due("number 9 is still free", x.seal(2, 9), 1);
        due("allowance", x.allow(1, true, 3), 100);
    }

    private static String state(TrueWeights x) {
        StringBuilder s = new StringBuilder();
        for (int what = 0; what <= 7; what++) s.append(x.count(what)).append(' ');
        for (int n = 0; n < x.count(1); n++) {
            for (int what = 0; what <= 7; what++) s.append(x.about(n, what)).append(' ');
            s.append(x.error(n)).append(' ').append(x.span(n)).append(' ').append(x.judge(n)).append(' ');
        }
        for (int t = 0; t < x.count(2); t++) {
            for (int what = 0; what <= 7; what++) s.append(x.told(t, what)).append(' ');
        }
        for (int number = 1; number <= 20; number++) s.append(x.sealed(number)).append(' ');
        return s.toString();
    }
}
