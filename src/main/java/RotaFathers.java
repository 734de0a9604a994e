/** One cave, one demon, and the fathers who meet it by rota: what each call answers is told by DOC.md. */
public final class RotaFathers {
    public static final int NONE = -1, UNKNOWN = -101, OUTSIDE = -102, STATE = -103, FULL = -104;

    private static final int SHIFTS = 8;
    private static final int MOST_FATHERS = 4;
    private static final int FEWEST_FATHERS = 2;
    private static final int MOST_FIT = 9;
    private static final int FIT_VALUES = MOST_FIT + 1;
    private static final int MOST_LETTERS = 18;
    private static final int MOST_FOUND = 6;
    private static final int MOST_BESTS = 30;
    private static final int BEST_SHIFTS = 3;
    private static final int NOBODY_BIT = 16;
    private static final int FATHER = 0, COPT = 1, SYRIAN = 2, SPOILER = 3, ABBOT = 4;

    private final Page page;
    private final Father[] fathers;
    private final Lived now;
    private final Lived kept;
    // All that is only tried out is tried in these rows, so that no call makes new ones.
    private final TrialDay trial;
    private final int[] plan;
    private final int[] bestWho;
    private final int[] tally;
    private int bestMerit;
    private int fatherCount;
    private int cavesRead;
    private int bestsDone;
    private boolean hasImage;

    public RotaFathers() {
        page = new Page();
        fathers = new Father[MOST_FATHERS];
        now = new Lived();
        kept = new Lived();
        trial = new TrialDay();
        plan = new int[SHIFTS];
        bestWho = new int[BEST_SHIFTS];
        tally = new int[(SHIFTS + 1) * FIT_VALUES];
    }

    // ---- the cave

    public int letter(int code) {
        if (code < 32 || code > 126) {
            return OUTSIDE;
        }
        if (page.length >= MOST_LETTERS) {
            return FULL;
        }
        page.add(code);
        return page.length;
    }

    public int blank() {
        int had = page.length;
        page.clear();
        return had;
    }

    public int fault() {
        return page.rightLetters();
    }

    public int cave() {
        if (!page.isWhole()) {
            return STATE;
        }
        readFathers();
        now.begin(page.fit());
        page.clear();
        hasImage = false;
        cavesRead++;
        return fatherCount;
    }

    // ---- fathers, the rota

    public int about(int father, int what) {
        Father told = fatherAt(fathers, father);
        if (told == null) {
            return UNKNOWN;
        }
        switch (what) {
            case 0: return told.kind();
            case 1: return told.flaw;
            case 2: return told.strength;
            case 3: return at(now.merits, father);
            case 4: return at(now.falls, father);
            case 5: return shiftsOf(father);
            case 6: return knows(now.known, told.flaw) ? 1 : 0;
            case 7: return nextMeritOf(father);
            default: return OUTSIDE;
        }
    }

    public int as(int father, int kind) {
        Father told = fatherAt(fathers, father);
        if (told == null) {
            return UNKNOWN;
        }
        if (kind < FATHER || kind > ABBOT) {
            return OUTSIDE;
        }
        return isOfKind(told, kind) ? father : NONE;
    }

    public int rota(int shift, int father) {
        if (!isShift(shift)) {
            return UNKNOWN;
        }
        if (father != NONE && fatherAt(fathers, father) == null) {
            return UNKNOWN;
        }
        int was = at(now.rota, shift);
        put(now.rota, shift, father);
        return was;
    }

    public int shift(int shift, int what) {
        if (!isShift(shift)) {
            return UNKNOWN;
        }
        switch (what) {
            case 0: return at(now.rota, shift);
            case 1: return at(nextDay().fitAhead, shift);
            case 2: return at(nextDay().weights, shift);
            case 3: return at(nextDay().fell, shift);
            case 4: return whoCanBe(shift);
            case 5: return whereToLook(shift);
            default: return OUTSIDE;
        }
    }

    public int day() {
        if (!hasCave()) {
            return STATE;
        }
        TrialDay lived = nextDay();
        for (int s = 0; s < SHIFTS; s++) {
            int who = at(now.rota, s);
            put(now.merits, who, at(now.merits, who) + at(lived.gains, s));
            put(now.falls, who, at(now.falls, who) + at(lived.fell, s));
        }
        now.fit = at(lived.fitAhead, SHIFTS);
        now.known = lived.known;
        now.days++;
        return lived.merit;
    }

    // ---- what would be

    public int best(int shift, int fit, int what) {
        if (!hasCave() || shift < 0 || shift > SHIFTS - BEST_SHIFTS) {
            return UNKNOWN;
        }
        if (!isFit(fit) || !(what == 0 || what >= 10 && what < 10 + BEST_SHIFTS)) {
            return OUTSIDE;
        }
        if (bestsDone >= MOST_BESTS) {
            return STATE;
        }
        bestsDone++;
        seekBest(shift, fit);
        return what == 0 ? bestMerit : at(bestWho, what - 10);
    }

    public int swaps() {
        if (!hasCave()) {
            return STATE;
        }
        int asItIs = nextDay().merit;
        copy(now.rota, plan);
        int better = 0;
        for (int one = 0; one < SHIFTS; one++) {
            for (int other = one + 1; other < SHIFTS; other++) {
                if (swappedMerit(one, other) > asItIs) {
                    better++;
                }
            }
        }
        return better;
    }

    // ---- what is found

    public int found(int shift, int fit) {
        if (!hasCave() || shift < 0 || shift > SHIFTS) {
            return UNKNOWN;
        }
        if (!isFit(fit)) {
            return OUTSIDE;
        }
        if (now.foundCount >= MOST_FOUND) {
            return FULL;
        }
        now.addFound(shift, fit);
        return now.foundCount;
    }

    public int forget() {
        int had = now.foundCount;
        now.foundCount = 0;
        return had;
    }

    public int months(int days, int seed, int what) {
        if (days < 1 || days > 30 || seed < 0 || what < 0 || what > 2) {
            return OUTSIDE;
        }
        if (!hasCave()) {
            return STATE;
        }
        int merit = 0;
        int falls = 0;
        int fit = now.fit;
        int known = now.known;
        int drawn = seed;
        for (int d = 0; d < days; d++) {
            drawn = planByDraws(drawn);
            trial.live(fathers, plan, fit, known);
            merit += trial.merit;
            falls += trial.falls;
            fit = at(trial.fitAhead, SHIFTS);
            known = trial.known;
        }
        return what == 0 ? merit : what == 1 ? falls : drawn;
    }

    // ---- what is told of all

    public int image() {
        if (!hasCave()) {
            return STATE;
        }
        kept.takeOver(now);
        hasImage = true;
        return kept.days;
    }

    public int restore() {
        if (!hasImage) {
            return STATE;
        }
        now.takeOver(kept);
        return now.days;
    }

    public int count(int what) {
        switch (what) {
            case 0: return fatherCount;
            case 1: return now.fit;
            case 2: return Integer.bitCount(now.known);
            case 3: return sum(now.merits);
            case 4: return sum(now.falls);
            case 5: return now.days;
            case 6: return now.foundCount;
            case 7: return page.length;
            case 8: return cavesRead;
            case 9: return bestsDone;
            case 10: return hasCave() ? at(nextDay().fitAhead, SHIFTS) : 0;
            default: return OUTSIDE;
        }
    }

    public long digest() {
        long h = 1021L;
        for (int f = 0; f < fatherCount; f++) {
            for (int what = 0; what <= 7; what++) {
                h = 31L * h + about(f, what);
            }
        }
        if (hasCave()) {
            for (int s = 0; s < SHIFTS; s++) {
                for (int what = 0; what <= 5; what++) {
                    h = 31L * h + shift(s, what);
                }
            }
            h = 31L * h + swaps();
        }
        for (int place = 0; place < page.length; place++) {
            h = 31L * h + page.code(place);
        }
        for (int what = 0; what <= 10; what++) {
            h = 31L * h + count(what);
        }
        return h;
    }

    // ---- what the calls share

    private boolean hasCave() {
        return fatherCount > 0;
    }

    private boolean isShift(int shift) {
        return hasCave() && shift >= 0 && shift < SHIFTS;
    }

    private static boolean isFit(int fit) {
        return fit >= 0 && fit <= MOST_FIT;
    }

    private void readFathers() {
        fatherCount = page.fathers();
        for (int f = 0; f < fathers.length; f++) {
            fathers[f] = f < fatherCount ? page.father(f) : null;
        }
    }

    private TrialDay nextDay() {
        trial.live(fathers, now.rota, now.fit, now.known);
        return trial;
    }

    private TrialDay plannedDay() {
        trial.live(fathers, plan, now.fit, now.known);
        return trial;
    }

    private int shiftsOf(int father) {
        int bits = 0;
        for (int s = 0; s < SHIFTS; s++) {
            if (at(now.rota, s) == father) {
                bits |= 1 << s;
            }
        }
        return bits;
    }

    private int nextMeritOf(int father) {
        TrialDay next = nextDay();
        int merit = 0;
        for (int s = 0; s < SHIFTS; s++) {
            if (at(now.rota, s) == father) {
                merit += at(next.gains, s);
            }
        }
        return merit;
    }

    /** Only a strictly better plan takes the place of an earlier one: of like ones the first stays. */
    private void seekBest(int shift, int fit) {
        copy(now.rota, plan);
        bestMerit = NONE;
        for (int i = 0; i < bestWho.length; i++) {
            bestWho[i] = NONE;
        }
        for (int first = NONE; first < fatherCount; first++) {
            put(plan, shift, first);
            for (int second = NONE; second < fatherCount; second++) {
                put(plan, shift + 1, second);
                for (int third = NONE; third < fatherCount; third++) {
                    put(plan, shift + 2, third);
                    weighPlan(shift, fit);
                }
            }
        }
    }

    private void weighPlan(int shift, int fit) {
        TrialDay tried = plannedDay();
        if (at(tried.fitAhead, SHIFTS) < fit || tried.merit <= bestMerit) {
            return;
        }
        bestMerit = tried.merit;
        for (int i = 0; i < bestWho.length; i++) {
            bestWho[i] = at(plan, shift + i);
        }
    }

    /** The merit of the plan with both shifts changed about; the plan is left as it was. */
    private int swappedMerit(int one, int other) {
        int there = at(plan, one);
        int elsewhere = at(plan, other);
        if (there == elsewhere) {
            return NONE;
        }
        put(plan, one, elsewhere);
        put(plan, other, there);
        int merit = plannedDay().merit;
        put(plan, one, there);
        put(plan, other, elsewhere);
        return merit;
    }

    private int whoCanBe(int shift) {
        copy(now.rota, plan);
        int bits = 0;
        for (int who = NONE; who < fatherCount; who++) {
            if (canBe(shift, who)) {
                bits |= who == NONE ? NOBODY_BIT : 1 << who;
            }
        }
        return bits;
    }

    /** Leaves the trial with this one's day; only the shift's own place of the plan is changed. */
    private boolean canBe(int shift, int who) {
        put(plan, shift, who);
        trial.live(fathers, plan, now.fit, now.known);
        return now.isAsFound(trial.fitAhead);
    }

    private int whereToLook(int shift) {
        copy(now.rota, plan);
        clear(tally);
        boolean any = false;
        for (int who = NONE; who < fatherCount; who++) {
            if (canBe(shift, who)) {
                any = true;
                tallyTrial();
            }
        }
        return any ? leastWorstPlace() : NONE;
    }

    private void tallyTrial() {
        for (int place = 0; place <= SHIFTS; place++) {
            int cell = place * FIT_VALUES + at(trial.fitAhead, place);
            put(tally, cell, at(tally, cell) + 1);
        }
    }

    private int leastWorstPlace() {
        int bestPlace = NONE;
        int fewest = MOST_FATHERS + 2;
        for (int place = 0; place <= SHIFTS; place++) {
            int worst = 0;
            for (int fit = 0; fit < FIT_VALUES; fit++) {
                worst = Math.max(worst, at(tally, place * FIT_VALUES + fit));
            }
            if (worst < fewest) {
                fewest = worst;
                bestPlace = place;
            }
        }
        return bestPlace;
    }

    /** Fills the plan by eight draws and tells the seed then. */
    private int planByDraws(int seed) {
        int drawn = seed;
        int choices = Math.max(1, fatherCount + 1);
        for (int s = 0; s < SHIFTS; s++) {
            drawn = nextSeed(drawn);
            int who = drawn / 65536 % choices;
            put(plan, s, who == fatherCount ? NONE : who);
        }
        return drawn;
    }

    private static int nextSeed(int seed) {
        return (int) ((1103515245L * seed + 12345L) & 0x7fffffffL);
    }

    private static boolean isOfKind(Father father, int kind) {
        switch (kind) {
            case FATHER: return true;
            case COPT: return father instanceof Copt;
            case SYRIAN: return father instanceof Syrian;
            case SPOILER: return father instanceof Spoiler;
            case ABBOT: return father instanceof Abbot;
            default: return false;
        }
    }

    // ---- rows, looked at only where they have a place

    private static int at(int[] row, int place) {
        return place >= 0 && place < row.length ? row[place] : 0;
    }

    private static void put(int[] row, int place, int value) {
        if (place >= 0 && place < row.length) {
            row[place] = value;
        }
    }

    private static void copy(int[] from, int[] to) {
        for (int i = 0; i < from.length && i < to.length; i++) {
            to[i] = from[i];
        }
    }

    private static void clear(int[] row) {
        for (int i = 0; i < row.length; i++) {
            row[i] = 0;
        }
    }

    private static int sum(int[] row) {
        int all = 0;
        for (int i = 0; i < row.length; i++) {
            all += row[i];
        }
        return all;
    }

    /** Null tells nobody: a number that names no father. */
    private static Father fatherAt(Father[] row, int number) {
        return number >= 0 && number < row.length ? row[number] : null;
    }

    private static boolean knows(int known, int flaw) {
        return (known & 1 << flaw) != 0;
    }

    /** A father of no other kind, and what all kinds have. */
    private static class Father {
        final int flaw;
        final int strength;

        Father(int flaw, int strength) {
            this.flaw = flaw;
            this.strength = strength;
        }

        int kind() {
            return FATHER;
        }

        int bears(int shift) {
            return strength;
        }

        boolean letsItSleep() {
            return false;
        }

        /** By how much the demon is more fit where he stood it. */
        int fitterByStanding() {
            return -1;
        }
    }

    private static class Copt extends Father {
        Copt(int flaw, int strength) {
            super(flaw, strength);
        }

        int kind() {
            return COPT;
        }

        int bears(int shift) {
            return shift <= 3 ? strength + 2 : strength;
        }
    }

    private static final class Abbot extends Copt {
        Abbot(int flaw, int strength) {
            super(flaw, strength);
        }

        int kind() {
            return ABBOT;
        }

        int bears(int shift) {
            return strength + 2;
        }
    }

    private static final class Syrian extends Father {
        Syrian(int flaw, int strength) {
            super(flaw, strength);
        }

        int kind() {
            return SYRIAN;
        }

        boolean letsItSleep() {
            return true;
        }
    }

    private static final class Spoiler extends Father {
        Spoiler(int flaw, int strength) {
            super(flaw, strength);
        }

        int kind() {
            return SPOILER;
        }

        int fitterByStanding() {
            return 1;
        }
    }

    /** The letters written so far. A father and the sign behind him are four of them. */
    private static final class Page {
        final int[] codes = new int[MOST_LETTERS];
        int length;

        void add(int code) {
            if (length < codes.length) {
                put(codes, length, code);
                length++;
            }
        }

        void clear() {
            length = 0;
        }

        int code(int place) {
            return at(codes, place);
        }

        int rightLetters() {
            int closing = closing();
            int place = 0;
            while (place < length && isRight(place, closing)) {
                place++;
            }
            return place;
        }

        boolean isWhole() {
            return length == closing() + 2 && rightLetters() == length;
        }

        /** Of a whole cave. */
        int fathers() {
            return Math.min((closing() + 1) / 4, MOST_FATHERS);
        }

        /** Of a whole cave. */
        Father father(int number) {
            int flaw = digit(4 * number + 1);
            int strength = digit(4 * number + 2);
            switch (code(4 * number)) {
                case 'c': return new Copt(flaw, strength);
                case 's': return new Syrian(flaw, strength);
                case 'p': return new Spoiler(flaw, strength);
                case 'a': return new Abbot(flaw, strength);
                default: return new Father(flaw, strength);
            }
        }

        /** Of a whole cave. */
        int fit() {
            return digit(closing() + 1);
        }

        private int digit(int place) {
            return at(codes, place) - '0';
        }

        /** The place of the first ';', or the length if there is none. */
        private int closing() {
            int place = 0;
            while (place < length && code(place) != ';') {
                place++;
            }
            return place;
        }

        /** Whether a cave can have this letter there, all ahead of it being right. */
        private boolean isRight(int place, int closing) {
            if (place > closing) {
                return place == closing + 1 && isDigit(place, 0, MOST_FIT);
            }
            switch (place % 4) {
                case 0: return isKind(code(place));
                case 1: return isDigit(place, 0, 5);
                case 2: return isDigit(place, 1, 9);
                default: return endsFather(code(place), place / 4 + 1);
            }
        }

        private boolean isDigit(int place, int least, int most) {
            int value = digit(place);
            return value >= least && value <= most;
        }

        private static boolean isKind(int code) {
            return code == 'f' || code == 'c' || code == 's' || code == 'p' || code == 'a';
        }

        private static boolean endsFather(int code, int fathersSoFar) {
            if (code == ';') {
                return fathersSoFar >= FEWEST_FATHERS;
            }
            return code == ',' && fathersSoFar < MOST_FATHERS;
        }
    }

    /** All that an image keeps. */
    private static final class Lived {
        final int[] rota = new int[SHIFTS];
        final int[] merits = new int[MOST_FATHERS];
        final int[] falls = new int[MOST_FATHERS];
        final int[] foundShifts = new int[MOST_FOUND];
        final int[] foundFits = new int[MOST_FOUND];
        int foundCount;
        int fit;
        int known;
        int days;

        void begin(int fitAtFirst) {
            for (int s = 0; s < rota.length; s++) {
                rota[s] = NONE;
            }
            clear(merits);
            clear(falls);
            foundCount = 0;
            fit = fitAtFirst;
            known = 0;
            days = 0;
        }

        void takeOver(Lived other) {
            copy(other.rota, rota);
            copy(other.merits, merits);
            copy(other.falls, falls);
            copy(other.foundShifts, foundShifts);
            copy(other.foundFits, foundFits);
            foundCount = other.foundCount;
            fit = other.fit;
            known = other.known;
            days = other.days;
        }

        void addFound(int shift, int fitThere) {
            put(foundShifts, foundCount, shift);
            put(foundFits, foundCount, fitThere);
            foundCount++;
        }

        boolean isAsFound(int[] fitAhead) {
            for (int i = 0; i < foundCount; i++) {
                if (at(fitAhead, at(foundShifts, i)) != at(foundFits, i)) {
                    return false;
                }
            }
            return true;
        }
    }

    /** A day as it would be; it is written over by the next one tried. */
    private static final class TrialDay {
        final int[] fitAhead = new int[SHIFTS + 1];
        final int[] weights = new int[SHIFTS];
        final int[] gains = new int[SHIFTS];
        final int[] fell = new int[SHIFTS];
        int known;
        int merit;
        int falls;

        void live(Father[] fathers, int[] rota, int fitAtFirst, int knownAtFirst) {
            int fit = fitAtFirst;
            known = knownAtFirst;
            merit = 0;
            falls = 0;
            for (int s = 0; s < SHIFTS; s++) {
                put(fitAhead, s, fit);
                int more = meet(s, fatherAt(fathers, at(rota, s)), fit);
                fit = Math.max(0, Math.min(MOST_FIT, fit + more));
            }
            put(fitAhead, SHIFTS, fit);
        }

        /** By how much the demon is more fit behind the shift. */
        private int meet(int shift, Father father, int fit) {
            put(weights, shift, 0);
            put(gains, shift, 0);
            put(fell, shift, 0);
            if (father == null) {
                return 2;
            }
            int weight = knows(known, father.flaw) ? fit + 2 : fit;
            put(weights, shift, weight);
            known |= 1 << father.flaw;
            if (father.letsItSleep()) {
                return 2;
            }
            if (weight > father.bears(shift)) {
                put(fell, shift, 1);
                falls++;
                return 1;
            }
            put(gains, shift, weight);
            merit += weight;
            return father.fitterByStanding();
        }
    }
}
