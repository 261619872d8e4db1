/**
 * A reservoir whose inflows come round and round: what passes, what it must hold, which draft is
 * sure, and which draft it was. README.md says how to use it; every row that a call works on is
 * made in the constructor, since all calls of a run share one room.
 */
public final class YieldDesk {
    public static final int BAD = -1, STATE = -2, FULL = -3, NONE = -9;

    private static final int MOST_INFLOWS = 12;
    private static final int MOST_INFLOW = 99;
    private static final int MOST_DRAFT = 99;
    private static final int MOST_CAP = 999;
    private static final int MOST_TIME = 999;
    private static final int MOST_PASSED = 99;
    private static final int LOSS_STEPS = 10;
    private static final int LOSS_STEP = 100;
    private static final int MOST_LETTERS = 120;
    private static final int MOST_LETTER = 255;
    private static final int MOST_UNDONE = 6;
    private static final int MOST_LEAST = 120;
    private static final int MOST_AHEAD = 8;
    private static final int ODDS_PARTS = 10;
    private static final int MOST_SEEN = 6;
    private static final int SEEN_PERIODS = 40;
    private static final int IMAGES = 2;

    private final Basin now = new Basin();
    private final Basin told = new Basin();
    private final TellText text = new TellText();
    private final History history = new History();
    private final Lines lines = new Lines();
    private final FullRuns fullRuns = new FullRuns();
    private final Sightings sightings = new Sightings();
    private final Fraction chance = new Fraction();
    private final Basin[] images = new Basin[IMAGES];

    public YieldDesk() {
    }

    // ---- what is told

    public int type(int letter) {
        if (isOutside(letter, 0, MOST_LETTER)) {
            return BAD;
        }
        return text.append(letter) ? text.length : FULL;
    }

    public int clear() {
        return text.empty();
    }

    public int tells() {
        int answer = text.readInto(told);
        if (answer < 0) {
            return answer;
        }
        history.remember(now);
        now.copyFrom(told);
        text.empty();
        return answer;
    }

    // ---- what is done

    public int passes(int n) {
        if (isOutside(n, 1, MOST_PASSED)) {
            return BAD;
        }
        if (now.time + n > MOST_TIME) {
            return STATE;
        }
        history.remember(now);
        int failsAhead = now.fails;
        for (int i = 0; i < n; i++) {
            now.pass();
        }
        return now.fails - failsAhead;
    }

    public int drafts(int q) {
        if (isOutside(q, 0, MOST_DRAFT)) {
            return BAD;
        }
        int was = now.draft;
        if (was == q) {
            return STATE;
        }
        history.remember(now);
        now.draft = q;
        return was;
    }

    public int caps(int c) {
        if (isOutside(c, 0, MOST_CAP)) {
            return BAD;
        }
        int was = now.cap;
        if (was == c) {
            return STATE;
        }
        history.remember(now);
        now.changeCap(c);
        return was;
    }

    public int flows(int t, int v) {
        if (now.hasNoPlace(t) || isOutside(v, 0, MOST_INFLOW)) {
            return BAD;
        }
        int was = now.inflowOf(t);
        if (was == v) {
            return STATE;
        }
        history.remember(now);
        now.changeInflow(t, v);
        return was;
    }

    public int undo() {
        return history.restore(now) ? history.known : STATE;
    }

    // ---- asked

    public int inflow(int t) {
        return now.hasNoPlace(t) ? BAD : now.inflowOf(t);
    }

    public int loss(int v) {
        return isOutside(v, 0, MOST_CAP) ? BAD : now.lossOf(v);
    }

    public int lowest(int l) {
        if (isOutside(l, 0, now.periods)) {
            return BAD;
        }
        lines.draw(now);
        return lines.leastSum(l);
    }

    public int need(int q) {
        if (isOutside(q, 0, MOST_DRAFT)) {
            return BAD;
        }
        lines.draw(now);
        return lines.isAboveMean(q) ? NONE : lines.heightAt(q);
    }

    public int sure(int c, int what) {
        if (isOutside(c, 0, MOST_CAP) || isOutside(what, 0, 1)) {
            return BAD;
        }
        lines.draw(now);
        lines.findSure(c);
        return lines.upTo.part(what);
    }

    public int piece(int k, int what) {
        boolean asksHowMany = k == -1;
        if (k < -1 || isOutside(what, 0, asksHowMany ? 0 : 2)) {
            return BAD;
        }
        lines.draw(now);
        if (asksHowMany) {
            return lines.pieces();
        }
        int length = lines.pieceAt(k);
        if (length == NONE || what == 0) {
            return length;
        }
        return lines.from.part(what - 1);
    }

    // ---- runs

    public int least(int m) {
        return isOutside(m, 1, MOST_LEAST) ? BAD : fullRuns.leastCap(now, m);
    }

    public int round(int what) {
        if (isOutside(what, 0, 2)) {
            return BAD;
        }
        fullRuns.findRound(now);
        if (what == 0) {
            return fullRuns.roundStart;
        }
        return what == 1 ? fullRuns.roundLength : fullRuns.roundFails;
    }

    public int run(int t) {
        return isOutside(t, 0, MOST_TIME) ? BAD : fullRuns.volumeBehind(now, t);
    }

    public int odds(int k, int x, int what) {
        if (isOutside(k, 0, MOST_AHEAD) || isOutside(x, 0, ODDS_PARTS) || isOutside(what, 0, 1)) {
            return BAD;
        }
        int all = 1;
        for (int i = 0; i < k; i++) {
            all *= ODDS_PARTS;
        }
        chance.become(weightWithoutFail(now, now.time, now.volume, k, x), all);
        return chance.part(what);
    }

    // ---- which draft

    public int sees(int t, int v) {
        if (isOutside(t, 0, SEEN_PERIODS - 1) || isOutside(v, 0, MOST_CAP)) {
            return BAD;
        }
        return sightings.append(t, v) ? sightings.seen : FULL;
    }

    public int forget() {
        return sightings.empty();
    }

    public int fits(int what) {
        if (isOutside(what, 0, 1)) {
            return BAD;
        }
        int fitting = sightings.findDrafts(now);
        if (what == 0) {
            return fitting;
        }
        return fitting == 0 ? NONE : sightings.firstDraft();
    }

    public int look() {
        return sightings.findDrafts(now) > 1 ? sightings.tellingPeriod(now) : NONE;
    }

    // ---- images

    public int keep(int image) {
        if (isOutside(image, 0, IMAGES - 1)) {
            return BAD;
        }
        if (images[image] == null) {
            images[image] = new Basin();
        }
        images[image].copyFrom(now);
        return now.time;
    }

    public int back(int image) {
        if (isOutside(image, 0, IMAGES - 1)) {
            return BAD;
        }
        if (images[image] == null) {
            return STATE;
        }
        now.copyFrom(images[image]);
        history.empty();
        return now.time;
    }

    public int count(int what) {
        switch (what) {
            case 0: return now.periods;
            case 1: return now.draft;
            case 2: return now.cap;
            case 3: return now.time;
            case 4: return now.volume;
            case 5: return now.fails;
            case 6: return now.lacking;
            case 7: return now.spilt;
            case 8: return now.total();
            case 9: return sightings.seen;
            case 10: return text.length;
            case 11: return history.known;
            default: return BAD;
        }
    }

    private static boolean isOutside(int number, int from, int upTo) {
        return number < from || number > upTo;
    }

    /** Of ODDS_PARTS to the power of left equally likely ways, those by which no PERIOD fails. */
    private static int weightWithoutFail(Basin basin, int time, int volume, int left, int x) {
        if (isOutside(left, 1, MOST_AHEAD)) {
            return 1;
        }
        int inflow = basin.inflowOf(time);
        int weight = 0;
        int whole = basin.levelWith(inflow, volume, basin.draft);
        if (whole >= 0) {
            int behind = Math.min(whole, basin.cap);
            weight += (ODDS_PARTS - x) * weightWithoutFail(basin, time + 1, behind, left - 1, x);
        }
        int halved = basin.levelWith(inflow / 2, volume, basin.draft);
        if (halved >= 0) {
            int behind = Math.min(halved, basin.cap);
            weight += x * weightWithoutFail(basin, time + 1, behind, left - 1, x);
        }
        return weight;
    }

    /** All that parts 1 and 2 of the document's terms tell, but THE TEXT. */
    private static final class Basin {
        private final int[] inflows = new int[MOST_INFLOWS];
        private final int[] losses = new int[LOSS_STEPS];
        private int periods = 1;
        private int draft;
        private int cap;
        private int time;
        private int volume;
        private int fails;
        private int lacking;
        private int spilt;

        void copyFrom(Basin other) {
            System.arraycopy(other.inflows, 0, inflows, 0, MOST_INFLOWS);
            System.arraycopy(other.losses, 0, losses, 0, LOSS_STEPS);
            periods = other.periods;
            draft = other.draft;
            cap = other.cap;
            time = other.time;
            volume = other.volume;
            fails = other.fails;
            lacking = other.lacking;
            spilt = other.spilt;
        }

        void becomeAsAtFirst() {
            for (int i = 0; i < MOST_INFLOWS; i++) {
                inflows[i] = 0;
            }
            for (int i = 0; i < LOSS_STEPS; i++) {
                losses[i] = 0;
            }
            periods = 1;
            draft = 0;
            cap = 0;
            time = 0;
            volume = 0;
            fails = 0;
            lacking = 0;
            spilt = 0;
        }

        boolean hasNoPlace(int t) {
            return isOutside(t, 0, Math.min(periods, MOST_INFLOWS) - 1);
        }

        int inflowOf(int t) {
            if (t < 0 || isOutside(periods, 1, MOST_INFLOWS)) {
                return 0;
            }
            return inflows[t % periods];
        }

        int lossOf(int v) {
            int place = v / LOSS_STEP;
            return isOutside(place, 0, LOSS_STEPS - 1) ? 0 : losses[place];
        }

        int total() {
            int sum = 0;
            for (int t = 0; t < periods; t++) {
                sum += inflowOf(t);
            }
            return sum;
        }

        /** What a VOLUME comes to ahead of being cut to what can be held. */
        int levelWith(int inflow, int volumeAhead, int anyDraft) {
            return volumeAhead + inflow - lossOf(volumeAhead) - anyDraft;
        }

        int levelBehind(int t, int volumeAhead, int anyDraft) {
            return levelWith(inflowOf(t), volumeAhead, anyDraft);
        }

        static int held(int level, int anyCap) {
            return Math.max(0, Math.min(level, anyCap));
        }

        void pass() {
            int level = levelBehind(time, volume, draft);
            if (level < 0) {
                fails++;
                lacking -= level;
            }
            if (level > cap) {
                spilt += level - cap;
            }
            volume = held(level, cap);
            time++;
        }

        void changeCap(int c) {
            cap = c;
            if (volume > c) {
                spilt += volume - c;
                volume = c;
            }
        }

        void changeInflow(int t, int v) {
            if (!hasNoPlace(t)) {
                inflows[t] = v;
            }
        }

        void changeLoss(int place, int v) {
            if (!isOutside(place, 0, LOSS_STEPS - 1)) {
                losses[place] = v;
            }
        }

        void addInflow(int place, int v) {
            if (!isOutside(place, 0, MOST_INFLOWS - 1)) {
                periods = place + 1;
                inflows[place] = v;
            }
        }
    }

    /** THE TEXT, and how it is read: the row of a kind's letter in KINDS has its bounds. */
    private static final class TellText {
        private static final char[] KINDS = {'i', 'd', 'c', 'e'};
        private static final int[] FEWEST = {1, 1, 1, LOSS_STEPS};
        private static final int[] MOST = {MOST_INFLOWS, 1, 1, LOSS_STEPS};
        private static final int[] GREATEST = {MOST_INFLOW, MOST_DRAFT, MOST_CAP, 9};
        private static final int NO_KIND = -1;
        private static final int NO_FAULT = -10;
        private static final int NO_NUMBER = -1;
        private static final int GREATEST_NUMBER = 999;

        private final int[] letters = new int[MOST_LETTERS];
        private int length;
        private int kind;
        private int numbers;
        private int items;
        private int kindsTold;

        boolean append(int letter) {
            if (length >= MOST_LETTERS) {
                return false;
            }
            letters[length] = letter;
            length++;
            return true;
        }

        int empty() {
            int had = length;
            length = 0;
            return had;
        }

        /** How many ITEMS there are, or NO_FAULT less the FAULT: the basin is of no use then. */
        int readInto(Basin basin) {
            basin.becomeAsAtFirst();
            kind = NO_KIND;
            numbers = 0;
            items = 0;
            kindsTold = 0;
            int tokenEnd = 0;
            for (int place = 0; place < length; place++) {
                if (place < tokenEnd || letterAt(place) == ' ') {
                    continue;
                }
                tokenEnd = endOfToken(place);
                if (!takesToken(place, tokenEnd, basin)) {
                    return NO_FAULT - place;
                }
            }
            if (kind != NO_KIND) {
                return NO_FAULT - length;
            }
            basin.volume = basin.cap;
            return items;
        }

        private int letterAt(int place) {
            return isOutside(place, 0, Math.min(length, MOST_LETTERS) - 1) ? ' ' : letters[place];
        }

        private boolean isFigure(int place) {
            int letter = letterAt(place);
            return letter >= '0' && letter <= '9';
        }

        private int endOfToken(int place) {
            int end = place + 1;
            if (isFigure(place)) {
                while (end < length && isFigure(end)) {
                    end++;
                }
            }
            return end;
        }

        private boolean takesToken(int place, int end, Basin basin) {
            if (isFigure(place)) {
                return takesNumber(numberAt(place, end), basin);
            }
            if (letterAt(place) == ';') {
                return takesEnd();
            }
            return takesKind(letterAt(place));
        }

        private int numberAt(int place, int end) {
            if (letterAt(place) == '0' && end > place + 1) {
                return NO_NUMBER;
            }
            int number = 0;
            for (int i = place; i < end; i++) {
                number = number * 10 + letterAt(i) - '0';
                if (number > GREATEST_NUMBER) {
                    return NO_NUMBER;
                }
            }
            return number;
        }

        private boolean takesKind(int letter) {
            if (kind != NO_KIND) {
                return false;
            }
            for (int i = 0; i < KINDS.length; i++) {
                if (KINDS[i] == letter && (kindsTold >> i & 1) == 0) {
                    kindsTold |= 1 << i;
                    kind = i;
                    numbers = 0;
                    return true;
                }
            }
            return false;
        }

        private boolean takesNumber(int number, Basin basin) {
            if (kind < 0 || kind >= KINDS.length || number == NO_NUMBER) {
                return false;
            }
            if (numbers >= MOST[kind] || number > GREATEST[kind]) {
                return false;
            }
            switch (KINDS[kind]) {
                case 'i': basin.addInflow(numbers, number); break;
                case 'd': basin.draft = number; break;
                case 'c': basin.cap = number; break;
                default: basin.changeLoss(numbers, number); break;
            }
            numbers++;
            return true;
        }

        private boolean takesEnd() {
            if (kind < 0 || kind >= KINDS.length || numbers < FEWEST[kind]) {
                return false;
            }
            kind = NO_KIND;
            items++;
            return true;
        }
    }

    /** What was ahead of the latest calls that can be UNDONE: a ring, in which the oldest is lost. */
    private static final class History {
        private final Basin[] ring = new Basin[MOST_UNDONE];
        private int next;
        private int known;

        History() {
            for (int i = 0; i < MOST_UNDONE; i++) {
                ring[i] = new Basin();
            }
        }

        void remember(Basin basin) {
            ring[next].copyFrom(basin);
            next = (next + 1) % MOST_UNDONE;
            known = Math.min(known + 1, MOST_UNDONE);
        }

        boolean restore(Basin basin) {
            if (known < 1) {
                return false;
            }
            next = (next + MOST_UNDONE - 1) % MOST_UNDONE;
            known--;
            basin.copyFrom(ring[next]);
            return true;
        }

        void empty() {
            known = 0;
        }
    }

    /** A number from 0 on, as upper by lower number; the lower one is never below 1. */
    private static final class Fraction {
        private static final int MOST_DIVISIONS = 100;

        private int upper;
        private int lower = 1;

        void become(int newUpper, int newLower) {
            upper = newUpper;
            lower = Math.max(1, newLower);
        }

        void raiseTo(int otherUpper, int otherLower) {
            if ((long) otherUpper * lower > (long) upper * otherLower) {
                become(otherUpper, otherLower);
            }
        }

        void lowerTo(int otherUpper, int otherLower) {
            if ((long) otherUpper * lower < (long) upper * otherLower) {
                become(otherUpper, otherLower);
            }
        }

        boolean isBelow(Fraction other) {
            return (long) upper * other.lower < (long) other.upper * lower;
        }

        /** The upper (0) or the lower number (1), in least terms. */
        int part(int what) {
            int shared = Math.max(1, greatestDivisor(upper, lower));
            return (what == 0 ? upper : lower) / shared;
        }

        private static int greatestDivisor(int a, int b) {
            int greater = a;
            int smaller = b;
            for (int i = 0; i < MOST_DIVISIONS && smaller > 0; i++) {
                int rest = greater % smaller;
                greater = smaller;
                smaller = rest;
            }
            return greater;
        }
    }

    /** The LINES, L times q less m(L), and what their greatest tells: NEED, SURE, PIECES. */
    private static final class Lines {
        private final int[] sums = new int[MOST_INFLOWS + 1];
        private final Fraction from = new Fraction();
        private final Fraction upTo = new Fraction();
        private int periods = 1;

        void draw(Basin basin) {
            periods = Math.max(1, Math.min(basin.periods, MOST_INFLOWS));
            for (int start = 0; start < periods; start++) {
                int sum = 0;
                for (int length = 1; length <= periods; length++) {
                    sum += basin.inflowOf(start + length - 1);
                    sums[length] = start == 0 ? sum : Math.min(sum, sums[length]);
                }
            }
        }

        int leastSum(int length) {
            return isOutside(length, 0, MOST_INFLOWS) ? 0 : sums[length];
        }

        boolean isAboveMean(int q) {
            return q * periods > leastSum(periods);
        }

        int heightAt(int q) {
            int height = 0;
            for (int length = 1; length <= periods; length++) {
                height = Math.max(height, length * q - leastSum(length));
            }
            return height;
        }

        /** Leaves SURE by c in upTo: there no line has climbed above c. */
        void findSure(int c) {
            upTo.become(leastSum(periods), periods);
            for (int length = 1; length <= periods; length++) {
                upTo.lowerTo(c + leastSum(length), length);
            }
        }

        int pieces() {
            int found = 0;
            for (int length = 0; length <= periods; length++) {
                if (isPiece(length)) {
                    found++;
                }
            }
            return found;
        }

        /** The L of a piece, which begins at from then; NONE. */
        int pieceAt(int k) {
            int found = 0;
            for (int length = 0; length <= periods; length++) {
                if (isPiece(length)) {
                    if (found == k) {
                        return length;
                    }
                    found++;
                }
            }
            return NONE;
        }

        /** A line is the greatest from where it passes all flatter ones up to the first steeper one. */
        private boolean isPiece(int length) {
            from.become(0, 1);
            upTo.become(leastSum(periods), periods);
            for (int flatter = 0; flatter < length; flatter++) {
                from.raiseTo(leastSum(length) - leastSum(flatter), length - flatter);
            }
            for (int steeper = length + 1; steeper <= periods; steeper++) {
                upTo.lowerTo(leastSum(steeper) - leastSum(length), steeper - length);
            }
            return from.isBelow(upTo);
        }
    }

    /** FULL RUNS of a basin's inflows and losses. */
    private static final class FullRuns {
        private static final int UNSEEN = -1;

        private final int[] multipleAtVolume = new int[MOST_CAP + 1];
        private int roundStart;
        private int roundLength;
        private int roundFails;

        /** Losses grow and shrink with the volume, so a greater cap may fail where a lesser did not. */
        int leastCap(Basin basin, int m) {
            for (int cap = 0; cap <= MOST_CAP; cap++) {
                if (!failsWithin(basin, cap, m)) {
                    return cap;
                }
            }
            return NONE;
        }

        private static boolean failsWithin(Basin basin, int cap, int m) {
            int volume = cap;
            for (int t = 0; t < m; t++) {
                int level = basin.levelBehind(t, volume, basin.draft);
                if (level < 0) {
                    return true;
                }
                volume = Math.min(level, cap);
            }
            return false;
        }

        int volumeBehind(Basin basin, int t) {
            int volume = basin.cap;
            for (int i = 0; i <= t; i++) {
                volume = Basin.held(basin.levelBehind(i, volume, basin.draft), basin.cap);
            }
            return volume;
        }

        /** There are MOST_CAP + 1 volumes at the most, so one comes again by as many multiples of n. */
        void findRound(Basin basin) {
            for (int i = 0; i <= MOST_CAP; i++) {
                multipleAtVolume[i] = UNSEEN;
            }
            int volume = basin.cap;
            int multiple = 0;
            while (multiple <= MOST_CAP && multipleOf(volume) == UNSEEN) {
                noteMultiple(volume, multiple);
                volume = volumeAfterAll(basin, volume);
                multiple++;
            }
            roundStart = multipleOf(volume);
            roundLength = multiple - roundStart;
            roundFails = 0;
            for (int i = 0; i < roundLength; i++) {
                volume = volumeAfterAll(basin, volume);
            }
        }

        private int multipleOf(int volume) {
            return isOutside(volume, 0, MOST_CAP) ? 0 : multipleAtVolume[volume];
        }

        private void noteMultiple(int volume, int multiple) {
            if (!isOutside(volume, 0, MOST_CAP)) {
                multipleAtVolume[volume] = multiple;
            }
        }

        /** VOLUME n PERIODS later; what fails on the way is added to roundFails. */
        private int volumeAfterAll(Basin basin, int volumeAhead) {
            int volume = volumeAhead;
            for (int t = 0; t < basin.periods; t++) {
                int level = basin.levelBehind(t, volume, basin.draft);
                if (level < 0) {
                    roundFails++;
                }
                volume = Basin.held(level, basin.cap);
            }
            return volume;
        }
    }

    /** What was SEEN of a FULL RUN of an unknown draft, and the drafts by which all of it is so. */
    private static final class Sightings {
        private final int[] periodsSeen = new int[MOST_SEEN];
        private final int[] volumesSeen = new int[MOST_SEEN];
        private final int[] draftsFitting = new int[MOST_DRAFT + 1];
        private final int[] volumes = new int[MOST_DRAFT + 1];
        private final int[] draftsAtVolume = new int[MOST_CAP + 1];
        private int seen;
        private int fitting;

        boolean append(int t, int v) {
            if (seen >= MOST_SEEN) {
                return false;
            }
            periodsSeen[seen] = t;
            volumesSeen[seen] = v;
            seen++;
            return true;
        }

        int empty() {
            int had = seen;
            seen = 0;
            return had;
        }

        /** How many drafts fit. */
        int findDrafts(Basin basin) {
            fitting = 0;
            int periods = periodsToCheck();
            for (int draft = 0; draft <= MOST_DRAFT; draft++) {
                if (isFitting(basin, draft, periods)) {
                    draftsFitting[fitting] = draft;
                    fitting++;
                }
            }
            return fitting;
        }

        int firstDraft() {
            return draftsFitting[0];
        }

        private int periodsToCheck() {
            int periods = 0;
            for (int i = 0; i < seen; i++) {
                periods = Math.max(periods, periodsSeen[i] + 1);
            }
            return periods;
        }

        private boolean isFitting(Basin basin, int draft, int periods) {
            int volume = basin.cap;
            for (int t = 0; t < periods; t++) {
                volume = Basin.held(basin.levelBehind(t, volume, draft), basin.cap);
                if (contradicts(t, volume)) {
                    return false;
                }
            }
            return true;
        }

        private boolean contradicts(int t, int volume) {
            for (int i = 0; i < seen; i++) {
                if (periodsSeen[i] == t && volumesSeen[i] != volume) {
                    return true;
                }
            }
            return false;
        }

        /** LOOK among the drafts that findDrafts left; all their runs pass side by side. */
        int tellingPeriod(Basin basin) {
            for (int i = 0; i < fitting; i++) {
                volumes[i] = basin.cap;
            }
            int best = NONE;
            int leastGroup = fitting + 1;
            for (int t = 0; t < SEEN_PERIODS; t++) {
                passAll(basin, t);
                int group = greatestGroup();
                if (group < leastGroup) {
                    leastGroup = group;
                    best = t;
                }
            }
            return best;
        }

        private void passAll(Basin basin, int t) {
            for (int i = 0; i < fitting; i++) {
                volumes[i] = Basin.held(basin.levelBehind(t, volumes[i], draftsFitting[i]), basin.cap);
            }
        }

        /** Only the counts that are used are wiped: the row is far longer than the drafts are many. */
        private int greatestGroup() {
            for (int i = 0; i < fitting; i++) {
                setDraftsAt(volumes[i], 0);
            }
            int greatest = 0;
            for (int i = 0; i < fitting; i++) {
                int group = draftsAt(volumes[i]) + 1;
                setDraftsAt(volumes[i], group);
                greatest = Math.max(greatest, group);
            }
            return greatest;
        }

        private int draftsAt(int volume) {
            return isOutside(volume, 0, MOST_CAP) ? 0 : draftsAtVolume[volume];
        }

        private void setDraftsAt(int volume, int group) {
            if (!isOutside(volume, 0, MOST_CAP)) {
                draftsAtVolume[volume] = group;
            }
        }
    }
}
