/**
 * Scales and pumps of a land, tried against standards that are tried themselves.
 * Every refusal is an answer below 0 (UNKNOWN, OUTSIDE, STATE, FULL); no call throws.
 */
public final class TrueWeights {
    public static final int UNKNOWN = -1, OUTSIDE = -2, STATE = -3, FULL = -4, NONE = -1000000;

    private static final int ROOT = 0, STANDARD = 1, SCALE = 2, PUMP = 3;
    private static final int NOT_JUDGED = 0, GOOD = 1, NOT_SURE = 2, WRONG = 3;

    private static final int LAST_DAY = 20000, LONGEST_PASS = 5000;
    private static final int MOST_THINGS = 40, MOST_TRIALS = 300, OWNERS = 10;
    private static final int MOST_DRIFT = 100, MOST_PERIOD = 4000;
    private static final int MOST_PARTS = 100000;
    private static final int DRAWS = 3;
    private static final int DRIFT_DAYS = 100;
    private static final int MOST_STAY = 20000;
    private static final int ALLOWANCE_NEW = 100, ALLOWANCE_IN_USE = 200;
    private static final int MOST_SEAL = 9999;
    private static final int FINE_PER_PART = 10, MOST_TIMES = 5;

    // Far above any error and span together, so that the rank always outweighs them.
    private static final long RANK_WEIGHT = 1L << 40;

    private final Thing[] things = new Thing[MOST_THINGS];
    private final Trial[] trials = new Trial[MOST_TRIALS];
    private final int[] allowancesNew = new int[PUMP + 1];
    private final int[] allowancesInUse = new int[PUMP + 1];
    private final int[] chargesOfOwner = new int[OWNERS];
    private final long[] sumOfOwner = new long[OWNERS];
    // One bit for each number: a row of 10000 would be most of the object's room.
    private final int[] sealsPutOn = new int[MOST_SEAL / 32 + 1];
    // Made once and filled anew by each call of first(), most urgent first.
    private final int[] ranking = new int[MOST_THINGS];
    private final long[] urgencies = new long[MOST_THINGS];
    private int today;
    private int thingCount;
    private int trialCount;
    private int chargeCount;

    public TrueWeights() {
        for (int kind = STANDARD; kind <= PUMP; kind++) {
            allowancesNew[kind] = ALLOWANCE_NEW;
            allowancesInUse[kind] = ALLOWANCE_IN_USE;
        }
    }

    // ---- things

    public int pass(int n) {
        if (!isWithin(n, 1, LONGEST_PASS)) return OUTSIDE;
        if (today + n > LAST_DAY) return FULL;
        today += n;
        return today;
    }

    public int thing(int kind, int drift, int period, int owner) {
        if (!isWithin(kind, ROOT, PUMP)) return OUTSIDE;
        if (!isWithin(drift, 0, MOST_DRIFT)) return OUTSIDE;
        if (!isWithin(period, 1, MOST_PERIOD)) return OUTSIDE;
        if (!isOwner(owner)) return UNKNOWN;
        if (thingCount >= MOST_THINGS) return FULL;
        int number = thingCount;
        things[number] = new Thing(kind, drift, period, owner);
        thingCount++;
        return number;
    }

    public int about(int thing, int what) {
        Thing asked = thingAt(thing);
        if (asked == null) return UNKNOWN;
        switch (what) {
            case 0: return asked.kind;
            case 1: return asked.drift;
            case 2: return asked.period;
            case 3: return asked.owner;
            case 4: return asked.trialsMade;
            case 5: return numberOf(asked.latest);
            case 6: return asked.sealNumber;
            case 7: return asked.chargesMade;
            default: return OUTSIDE;
        }
    }

    public int draw(int thing, int v) {
        Thing pump = thingAt(thing);
        if (pump == null) return UNKNOWN;
        if (!isWithin(v, -MOST_PARTS, MOST_PARTS)) return OUTSIDE;
        if (pump.kind != PUMP) return STATE;
        if (pump.hasAllDraws()) return FULL;
        return pump.addDraw(v);
    }

    public int allow(int kind, boolean isNew, int v) {
        if (!isWithin(kind, STANDARD, PUMP)) return OUTSIDE;
        if (!isWithin(v, 0, MOST_PARTS)) return OUTSIDE;
        int[] row = isNew ? allowancesNew : allowancesInUse;
        int before = row[kind];
        row[kind] = v;
        return before;
    }

    public int move(int thing, int owner) {
        Thing moved = thingAt(thing);
        if (moved == null || !isOwner(owner)) return UNKNOWN;
        if (!moved.isOfTrade()) return STATE;
        int before = moved.owner;
        moved.owner = owner;
        moved.sealNumber = NONE;
        return before;
    }

    // ---- trials

    public int trial(int thing, int by, int reading, int fineness) {
        Thing tried = thingAt(thing);
        Thing master = thingAt(by);
        if (tried == null || master == null) return UNKNOWN;
        if (tried.kind != PUMP && !isWithin(reading, -MOST_PARTS, MOST_PARTS)) return OUTSIDE;
        if (!isWithin(fineness, 0, MOST_PARTS)) return OUTSIDE;
        if (!tried.canBeTried() || thing == by || !master.canTryOthers(today)) return STATE;
        if (trialCount >= MOST_TRIALS) return FULL;

        int read = reading;
        int span = master.spanOn(today) + fineness;
        if (tried.kind == PUMP) {
            read = tried.middleDraw();
            span += tried.spreadOfDraws();
        }
        int error = master.errorHeld() + read;
        Trial made = new Trial(trialCount, thing, by, master.latest, today, error, span);
        trials[trialCount] = made;
        trialCount++;
        takeTrial(tried, made);
        return made.number;
    }

    public int told(int trial, int what) {
        Trial asked = trialAt(trial);
        if (asked == null) return UNKNOWN;
        switch (what) {
            case 0: return asked.tried;
            case 1: return asked.master;
            case 2: return asked.dayMade;
            case 3: return asked.errorTold;
            case 4: return asked.spanThen;
            case 5: return asked.isSettled ? 1 : 0;
            case 6: return asked.foundWronged ? 1 : 0;
            case 7: return numberOf(asked.base);
            default: return OUTSIDE;
        }
    }

    public int error(int thing) {
        Thing asked = thingAt(thing);
        if (asked == null) return UNKNOWN;
        return asked.isMeasured() ? asked.errorHeld() : NONE;
    }

    public int span(int thing) {
        Thing asked = thingAt(thing);
        if (asked == null) return UNKNOWN;
        return asked.isMeasured() ? asked.spanOn(today) : NONE;
    }

    public int settled(int thing) {
        Thing asked = thingAt(thing);
        if (asked == null) return UNKNOWN;
        return asked.isSettledNow() ? 1 : 0;
    }

    public int due(int thing) {
        Thing asked = thingAt(thing);
        if (asked == null) return UNKNOWN;
        return asked.isDueOn(today) ? 1 : 0;
    }

    public int left(int thing) {
        Thing asked = thingAt(thing);
        if (asked == null) return UNKNOWN;
        return asked.kind == ROOT ? NONE : asked.daysUntilDue(today);
    }

    public int chain(int thing, int i) {
        Thing asked = thingAt(thing);
        if (asked == null) return UNKNOWN;
        if (!isWithin(i, 0, MOST_TRIALS - 1)) return NONE;
        Trial link = asked.latest;
        for (int n = 0; n < i && link != null; n++) link = link.base;
        return numberOf(link);
    }

    public int unsettled() {
        int found = 0;
        for (int n = 0; n < trialCount; n++) {
            Trial trial = trialAt(n);
            if (trial != null && !trial.isSettled) found++;
        }
        return found;
    }

    // ---- judged

    public int judge(int thing) {
        Thing asked = thingAt(thing);
        return asked == null ? UNKNOWN : judgement(asked);
    }

    public int stays(int thing) {
        Thing asked = thingAt(thing);
        if (asked == null) return UNKNOWN;
        int judged = judgement(asked);
        int size = asked.errorSize();
        int allowance = allowanceFor(asked);
        if (judged == GOOD) return asked.daysNoWiderThan(allowance - size, today);
        if (judged == WRONG) return asked.daysNoWiderThan(size - allowance - 1, today);
        // A span only grows, so who is not sure now never becomes sure by waiting.
        return judged == NOT_SURE ? MOST_STAY : NONE;
    }

    public int seal(int thing, int number) {
        Thing asked = thingAt(thing);
        if (asked == null) return UNKNOWN;
        if (!isSealNumber(number)) return OUTSIDE;
        if (!asked.isOfTrade() || judgement(asked) != GOOD || wasPutOn(number)) return STATE;
        markPutOn(number);
        asked.sealNumber = number;
        return 1;
    }

    public int sealed(int number) {
        if (!isSealNumber(number)) return OUTSIDE;
        for (int n = 0; n < thingCount; n++) {
            Thing thing = thingAt(n);
            if (thing != null && thing.sealNumber == number) return n;
        }
        return NONE;
    }

    public int charge(int thing) {
        Thing asked = thingAt(thing);
        if (asked == null) return UNKNOWN;
        Trial latest = asked.latest;
        if (!asked.isOfTrade() || judgement(asked) != WRONG || latest == null) return STATE;
        if (latest.dayMade != today || latest.isCharged) return STATE;
        int owner = asked.owner;
        if (!isOwner(owner)) return STATE;
        latest.isCharged = true;
        asked.chargesMade++;
        chargesOfOwner[owner]++;
        chargeCount++;
        int beyond = asked.errorSize() - asked.spanOn(today) - allowanceFor(asked);
        int fine = FINE_PER_PART * beyond * Math.min(chargesOfOwner[owner], MOST_TIMES);
        sumOfOwner[owner] += fine;
        return fine;
    }

    public long charged(int owner) {
        return isOwner(owner) ? sumOfOwner[owner] : UNKNOWN;
    }

    public int first(int i) {
        int ranked = rankThings();
        return isWithin(i, 0, ranked - 1) ? ranking[i] : NONE;
    }

    public int count(int what) {
        switch (what) {
            case 0: return today;
            case 1: return thingCount;
            case 2: return trialCount;
            case 3: return howManyDue();
            case 4: return howManyJudged(GOOD);
            case 5: return howManyJudged(NOT_SURE);
            case 6: return howManyJudged(WRONG);
            case 7: return chargeCount;
            default: return OUTSIDE;
        }
    }

    // ---- inside

    private static boolean isWithin(int v, int least, int most) {
        return v >= least && v <= most;
    }

    private static boolean isOwner(int owner) {
        return isWithin(owner, 0, OWNERS - 1);
    }

    private static boolean isSealNumber(int number) {
        return isWithin(number, 1, MOST_SEAL);
    }

    private static int numberOf(Trial trial) {
        return trial == null ? NONE : trial.number;
    }

    private Thing thingAt(int number) {
        return isWithin(number, 0, thingCount - 1) ? things[number] : null;
    }

    private Trial trialAt(int number) {
        return isWithin(number, 0, trialCount - 1) ? trials[number] : null;
    }

    private void takeTrial(Thing tried, Trial made) {
        Trial ahead = tried.latest;
        made.foundWronged = tried.isWrongedBy(made);
        tried.take(made);
        if (ahead == null || !made.foundWronged) return;
        tried.sealNumber = NONE;
        unsettleAllBasedOn(ahead);
    }

    // A base always has a lesser number, so one way up through the trials meets all of them.
    private void unsettleAllBasedOn(Trial wrong) {
        for (int n = wrong.number + 1; n < trialCount; n++) {
            Trial trial = trialAt(n);
            if (trial != null && trial.isShakenBy(wrong)) trial.isSettled = false;
        }
    }

    private int allowanceFor(Thing thing) {
        int kind = thing.kind;
        if (!isWithin(kind, STANDARD, PUMP)) return 0;
        return thing.trialsMade == 1 ? allowancesNew[kind] : allowancesInUse[kind];
    }

    private int judgement(Thing thing) {
        if (thing.kind == ROOT || !thing.isSettledNow()) return NOT_JUDGED;
        int size = thing.errorSize();
        int span = thing.spanOn(today);
        int allowance = allowanceFor(thing);
        if (size + span <= allowance) return GOOD;
        return size - span > allowance ? WRONG : NOT_SURE;
    }

    private boolean wasPutOn(int number) {
        return isSealNumber(number) && (sealsPutOn[number / 32] & (1 << (number % 32))) != 0;
    }

    private void markPutOn(int number) {
        if (isSealNumber(number)) sealsPutOn[number / 32] |= 1 << (number % 32);
    }

    private int rankThings() {
        int ranked = 0;
        for (int n = 0; n < thingCount; n++) {
            Thing thing = thingAt(n);
            if (thing == null || !thing.isOfTrade()) continue;
            rankBehind(ranked, n, urgencyOf(thing));
            ranked++;
        }
        return ranked;
    }

    // Only the less urgent give way: of like ones the lesser number, which came first, stays ahead.
    private void rankBehind(int ranked, int number, long urgency) {
        if (!isWithin(ranked, 0, MOST_THINGS - 1)) return;
        int place = ranked;
        while (place > 0 && urgencies[place - 1] < urgency) {
            ranking[place] = ranking[place - 1];
            urgencies[place] = urgencies[place - 1];
            place--;
        }
        ranking[place] = number;
        urgencies[place] = urgency;
    }

    private long urgencyOf(Thing thing) {
        if (thing.latest == null) return 3 * RANK_WEIGHT;
        int excess = thing.errorSize() + thing.spanOn(today) - allowanceFor(thing);
        if (!thing.isSettledNow()) return 2 * RANK_WEIGHT + excess;
        return thing.isDueOn(today) ? RANK_WEIGHT + excess : excess;
    }

    private int howManyDue() {
        int found = 0;
        for (int n = 0; n < thingCount; n++) {
            Thing thing = thingAt(n);
            if (thing != null && thing.isDueOn(today)) found++;
        }
        return found;
    }

    private int howManyJudged(int wanted) {
        int found = 0;
        for (int n = 0; n < thingCount; n++) {
            Thing thing = thingAt(n);
            if (thing != null && thing.isOfTrade() && judgement(thing) == wanted) found++;
        }
        return found;
    }

    /** A root, a standard, a scale or a pump, with what its latest trial left it. */
    private static final class Thing {
        final int kind;
        final int drift;
        final int period;
        final int[] draws = new int[DRAWS];
        int owner;
        int drawCount;
        int trialsMade;
        int chargesMade;
        int sealNumber = NONE;
        Trial latest;

        Thing(int kind, int drift, int period, int owner) {
            this.kind = kind;
            this.drift = drift;
            this.period = period;
            this.owner = owner;
        }

        boolean isOfTrade() {
            return kind == SCALE || kind == PUMP;
        }

        boolean hasAllDraws() {
            return drawCount >= DRAWS;
        }

        int addDraw(int v) {
            if (isWithin(drawCount, 0, DRAWS - 1)) {
                draws[drawCount] = v;
                drawCount++;
            }
            return drawCount;
        }

        int leastDraw() {
            return Math.min(draws[0], Math.min(draws[1], draws[2]));
        }

        int greatestDraw() {
            return Math.max(draws[0], Math.max(draws[1], draws[2]));
        }

        int middleDraw() {
            return draws[0] + draws[1] + draws[2] - leastDraw() - greatestDraw();
        }

        int spreadOfDraws() {
            return greatestDraw() - leastDraw();
        }

        boolean isMeasured() {
            return kind == ROOT || latest != null;
        }

        boolean isSettledNow() {
            return kind == ROOT || latest != null && latest.isSettled;
        }

        boolean isDueOn(int day) {
            return kind != ROOT && daysUntilDue(day) == 0;
        }

        int daysUntilDue(int day) {
            return latest == null ? 0 : Math.max(0, latest.dayMade + period + 1 - day);
        }

        boolean canBeTried() {
            return kind != ROOT && (kind != PUMP || hasAllDraws());
        }

        boolean canTryOthers(int day) {
            return !isOfTrade() && isSettledNow() && !isDueOn(day);
        }

        int errorHeld() {
            return latest == null ? 0 : latest.errorTold;
        }

        int errorSize() {
            return Math.abs(errorHeld());
        }

        int spanOn(int day) {
            if (latest == null) return 0;
            int grown = drift * (day - latest.dayMade);
            return latest.spanThen + (grown + DRIFT_DAYS - 1) / DRIFT_DAYS;
        }

        /** How many days after this one the span is still no wider than so much. */
        int daysNoWiderThan(int widest, int day) {
            if (latest == null || drift <= 0) return MOST_STAY;
            // An error of a long chain times 100 is beyond an int.
            long daysOfGrowth = ((long) widest - latest.spanThen) * DRIFT_DAYS / drift;
            return (int) Math.min(MOST_STAY, daysOfGrowth - (day - latest.dayMade));
        }

        boolean isWrongedBy(Trial trial) {
            if (latest == null || !latest.isSettled) return false;
            int between = Math.abs(latest.errorTold - trial.errorTold);
            return between > spanOn(trial.dayMade) + trial.spanThen;
        }

        void take(Trial trial) {
            latest = trial;
            trialsMade++;
            drawCount = 0;
        }
    }

    /** What one trial told; what it tells stays, only whether it is settled may change. */
    private static final class Trial {
        final int number;
        final int tried;
        final int master;
        final Trial base;
        final int dayMade;
        final int errorTold;
        final int spanThen;
        boolean isSettled = true;
        boolean foundWronged;
        boolean isCharged;

        Trial(int number, int tried, int master, Trial base, int dayMade, int errorTold, int spanThen) {
            this.number = number;
            this.tried = tried;
            this.master = master;
            this.base = base;
            this.dayMade = dayMade;
            this.errorTold = errorTold;
            this.spanThen = spanThen;
        }

        boolean isShakenBy(Trial wrong) {
            return base != null && (base == wrong || !base.isSettled);
        }
    }
}
