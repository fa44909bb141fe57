/**
 * A drummer's arithmetic: cycles, phrases, closings, shapes, turns, hands and solos, in whole ticks.
 *
 * <p>Every call answers a number; a refused one answers BAD, NO, FULL or a finding and changes
 * nothing, but for the tape, which is used up by being read.
 */
public final class CountBook {
    public static final int BAD = -1000000001, NO = -1000000002, FULL = -1000000003, NONE = -1000000005, NOTHING = -1000000011, INDEX = -1000000013, SIZE = -1000000014;

    // What a look at the arguments answers if nothing is to be refused: no refusal is 0.
    private static final int FINE = 0;

    private static final int BEAT = 24;
    private static final int HALF = 12;
    private static final int WIDEST_GAP = 96;
    private static final int WIDEST_GRID = 24;

    // How often the phrase is said in a closing, and in a closing of closings.
    private static final int SAID_IN_CLOSING = 3;
    private static final int SAID_IN_DOUBLE = 9;

    private static final int SHRINKING = 0;
    private static final int GROWING = 1;
    private static final int HOURGLASS = 2;
    private static final int WIDEST_STEP = 9;

    private final Cycle[] cycles = new Cycle[4];
    private final Phrase[] phrases = new Phrase[6];
    private final Sheet[] sheets = new Sheet[2];
    private final Tape tape = new Tape();
    private final Turns turns = new Turns();
    private final Hands hands = new Hands();
    private final Solo solo = new Solo();
    private int gridTicks = 6;

    public CountBook() {
        for (int i = 0; i < cycles.length; i++) {
            cycles[i] = new Cycle();
        }
        for (int i = 0; i < phrases.length; i++) {
            phrases[i] = new Phrase();
        }
        for (int i = 0; i < sheets.length; i++) {
            sheets[i] = new Sheet();
        }
    }

    // ---- cycles

    public int limb(int cycle, int kind, int halves) {
        Cycle c = cycleAt(cycle);
        if (c == null || !Cycle.isKind(kind) || halves < 1 || halves > Cycle.MOST_HALVES) {
            return BAD;
        }
        return c.take(kind, halves);
    }

    public int isOf(int cycle, int i, int kind) {
        Cycle c = cycleAt(cycle);
        if (c == null || i < 0 || i >= c.size || !Cycle.isKind(kind)) {
            return BAD;
        }
        return c.limbIs(i, kind) ? 1 : 0;
    }

    public int clear(int cycle) {
        Cycle c = cycleAt(cycle);
        if (c == null) {
            return BAD;
        }
        int had = c.size;
        c.size = 0;
        return had;
    }

    public int length(int cycle) {
        Cycle c = cycleAt(cycle);
        return c == null ? BAD : c.allTicks();
    }

    public int handling(int cycle, int tick) {
        Cycle c = cycleAt(cycle);
        if (c == null || tick < 0) {
            return BAD;
        }
        return c.handlingAt(tick);
    }

    // ---- phrases

    public int feed(int a, int b, int c) {
        if (!tape.hasRoomFor(12)) {
            return FULL;
        }
        tape.write(a);
        tape.write(b);
        tape.write(c);
        return tape.size;
    }

    public int trim(int n) {
        if (n < 0 || n > tape.size) {
            return BAD;
        }
        tape.size = n;
        return n;
    }

    public int phrase(int phrase) {
        Phrase p = phraseAt(phrase);
        int answer = p == null ? BAD : tape.readInto(p);
        // Whatever is answered, BAD too, the tape is used up.
        tape.size = 0;
        return answer;
    }

    public int syllable(int phrase, int i) {
        Phrase p = phraseAt(phrase);
        if (p == null || i < 0) {
            return BAD;
        }
        return p.at(i);
    }

    public int ticks(int phrase, int speed) {
        Phrase p = phraseAt(phrase);
        int each = ticksOfOne(speed);
        if (p == null || each == 0) {
            return BAD;
        }
        return p.size * each;
    }

    // ---- closings

    public int lands(int cycle, int phrase, int how, int tick, int g) {
        int refused = closingRefusal(cycle, phrase, how, tick, g);
        if (refused != FINE) {
            return refused;
        }
        int wanting = wantingIn(cycle, phrase, how, tick, SAID_IN_CLOSING);
        return lessGaps(wanting, 2 * g, lengthOf(cycle)) == 0 ? 1 : 0;
    }

    public int gaps(int cycle, int phrase, int how, int tick) {
        int refused = closingRefusal(cycle, phrase, how, tick, 0);
        if (refused != FINE) {
            return refused;
        }
        return gapsFilling(wantingIn(cycle, phrase, how, tick, SAID_IN_CLOSING), lengthOf(cycle));
    }

    public int gap(int cycle, int phrase, int how, int tick, int i) {
        if (i < 0) {
            return BAD;
        }
        int refused = closingRefusal(cycle, phrase, how, tick, 0);
        if (refused != FINE) {
            return refused;
        }
        return gapFilling(wantingIn(cycle, phrase, how, tick, SAID_IN_CLOSING), lengthOf(cycle), i);
    }

    public int start(int cycle, int phrase, int how, int g) {
        int refused = closingRefusal(cycle, phrase, how, 0, g);
        if (refused != FINE) {
            return refused;
        }
        // What a closing from tick 0 wants until the one is by how much later it has to start.
        int wanting = wantingIn(cycle, phrase, how, 0, SAID_IN_CLOSING);
        return lessGaps(wanting, 2 * g, lengthOf(cycle));
    }

    public int doubles(int cycle, int phrase, int how, int tick) {
        int refused = closingRefusal(cycle, phrase, how, tick, 0);
        if (refused != FINE) {
            return refused;
        }
        int wanting = wantingIn(cycle, phrase, how, tick, SAID_IN_DOUBLE);
        int length = lengthOf(cycle);
        int pairs = 0;
        for (int g = 0; g <= WIDEST_GAP; g += Math.max(1, gridTicks)) {
            pairs += gapsFilling(lessGaps(wanting, 6 * g, length), length);
        }
        return pairs;
    }

    public int least(int cycle, int phrase, int how, int tick) {
        int refused = closingRefusal(cycle, phrase, how, tick, 0);
        if (refused != FINE) {
            return refused;
        }
        int wanting = wantingIn(cycle, phrase, how, tick, SAID_IN_DOUBLE);
        int length = lengthOf(cycle);
        int best = NONE;
        int bestTogether = 2 * WIDEST_GAP + 1;
        for (int g = 0; g <= WIDEST_GAP; g += Math.max(1, gridTicks)) {
            int h = gapFilling(lessGaps(wanting, 6 * g, length), length, 0);
            if (h != NONE && g + h < bestTogether) {
                best = 1000 * g + h;
                bestTogether = g + h;
            }
        }
        return best;
    }

    public int grid(int v) {
        if (v < 1 || v > WIDEST_GRID) {
            return BAD;
        }
        int was = gridTicks;
        gridTicks = v;
        return was;
    }

    // ---- shapes, turns

    public int shape(int phrase, int d, int what) {
        Phrase p = phraseAt(phrase);
        if (p == null || !isStep(d) || !isShape(what)) {
            return BAD;
        }
        if (p.size == 0) {
            return NO;
        }
        int rows = shapeRows(p, d, what);
        int all = 0;
        for (int row = 0; row < rows; row++) {
            all += p.size - shapeRowStart(p, d, what, row);
        }
        return all;
    }

    public int shaped(int phrase, int d, int what, int i) {
        Phrase p = phraseAt(phrase);
        if (p == null || !isStep(d) || !isShape(what) || i < 0) {
            return BAD;
        }
        if (p.size == 0) {
            return NO;
        }
        int rows = shapeRows(p, d, what);
        int left = i;
        for (int row = 0; row < rows; row++) {
            int from = shapeRowStart(p, d, what, row);
            if (left < p.size - from) {
                return p.at(from + left);
            }
            left -= p.size - from;
        }
        return NONE;
    }

    public int ways(int phrase, int sheet) {
        Phrase p = phraseAt(phrase);
        Sheet h = sheetAt(sheet);
        if (p == null || h == null) {
            return BAD;
        }
        return h.isMissing() ? NOTHING : turns.allWays(p, h);
    }

    public int cuts(int phrase, int sheet) {
        Phrase p = phraseAt(phrase);
        Sheet h = sheetAt(sheet);
        if (p == null || h == null) {
            return BAD;
        }
        return h.isMissing() ? NOTHING : turns.fewestCuts(p, h);
    }

    // ---- hands

    public int hand(int syllable, int v) {
        return hands.change(syllable, v);
    }

    public int strains(int phrase) {
        Phrase p = phraseAt(phrase);
        if (p == null) {
            return BAD;
        }
        return p.size == 0 ? NO : hands.fewestStrains(p);
    }

    public int plays(int phrase, int i) {
        Phrase p = phraseAt(phrase);
        if (p == null || i < 0) {
            return BAD;
        }
        if (p.size == 0) {
            return NO;
        }
        return i >= p.size ? BAD : hands.handAt(p, i);
    }

    // ---- solos

    public int join(int phrase, int speed, int times, int gap) {
        Phrase p = phraseAt(phrase);
        int each = ticksOfOne(speed);
        if (p == null || each == 0 || times < 1 || times > Solo.MOST_TIMES || !isGap(gap)) {
            return BAD;
        }
        return p.size == 0 ? NO : solo.take(p.size * each * times, gap);
    }

    public int drop() {
        int had = solo.size;
        solo.size = 0;
        return had;
    }

    public int account(int cycle, int i) {
        Cycle c = cycleAt(cycle);
        if (c == null || i < 0 || i >= solo.size) {
            return BAD;
        }
        int length = c.allTicks();
        return length <= 0 ? NO : solo.endOf(i) % length;
    }

    public int landings(int cycle) {
        Cycle c = cycleAt(cycle);
        if (c == null) {
            return BAD;
        }
        int length = c.allTicks();
        return length <= 0 ? NO : solo.endsAtOne(length);
    }

    public int home(int cycle) {
        Cycle c = cycleAt(cycle);
        if (c == null) {
            return BAD;
        }
        int length = c.allTicks();
        if (length <= 0 || solo.size == 0) {
            return NO;
        }
        return Math.floorMod(-solo.endWithoutLastGap(), length);
    }

    // ---- sheets

    public int sheet(int s, int n) {
        Sheet h = sheetAt(s);
        if (h == null || n > Sheet.MOST_PLACES) {
            return BAD;
        }
        if (n < 0) {
            return SIZE;
        }
        h.layOut(n);
        return n;
    }

    public int mark(int s, int place, int v) {
        Sheet h = sheetAt(s);
        if (h == null) {
            return BAD;
        }
        if (h.isMissing()) {
            return NOTHING;
        }
        return h.change(place, (byte) v);
    }

    public int copy(int phrase, int from, int s, int at, int many) {
        Phrase p = phraseAt(phrase);
        Sheet h = sheetAt(s);
        if (p == null || h == null) {
            return BAD;
        }
        if (h.isMissing()) {
            return NOTHING;
        }
        if (!lieWithin(from, many, p.size) || !lieWithin(at, many, h.places)) {
            return INDEX;
        }
        System.arraycopy(p.row, from, h.row, at, many);
        return many;
    }

    public int count(int what) {
        switch (what) {
            case 0:
                return limbsInAll();
            case 1:
                return phrasesNotEmpty();
            case 2:
                return syllablesInAll();
            case 3:
                return solo.size;
            case 4:
                return tape.size;
            case 5:
                return sheetsNotMissing();
            default:
                return BAD;
        }
    }

    // ---- what is there

    /** The cycle of a number, null if there is none. */
    private Cycle cycleAt(int i) {
        return i >= 0 && i < cycles.length ? cycles[i] : null;
    }

    private Phrase phraseAt(int i) {
        return i >= 0 && i < phrases.length ? phrases[i] : null;
    }

    private Sheet sheetAt(int i) {
        return i >= 0 && i < sheets.length ? sheets[i] : null;
    }

    private int lengthOf(int cycle) {
        Cycle c = cycleAt(cycle);
        return c == null ? 0 : c.allTicks();
    }

    private int limbsInAll() {
        int all = 0;
        for (int i = 0; i < cycles.length; i++) {
            all += cycles[i].size;
        }
        return all;
    }

    private int phrasesNotEmpty() {
        int all = 0;
        for (int i = 0; i < phrases.length; i++) {
            if (phrases[i].size > 0) {
                all++;
            }
        }
        return all;
    }

    private int syllablesInAll() {
        int all = 0;
        for (int i = 0; i < phrases.length; i++) {
            all += phrases[i].size;
        }
        return all;
    }

    private int sheetsNotMissing() {
        int all = 0;
        for (int i = 0; i < sheets.length; i++) {
            if (!sheets[i].isMissing()) {
                all++;
            }
        }
        return all;
    }

    /** Whether so many places from one on are among 0 to size - 1; made so that no sum can wrap. */
    private static boolean lieWithin(int from, int many, int size) {
        return from >= 0 && many >= 0 && from <= size && many <= size - from;
    }

    // ---- speeds and gaps

    /** How many ticks a syllable lasts by a speed; 0 if there is no such speed. */
    private static int ticksOfOne(int speed) {
        switch (speed) {
            case 1:
            case 2:
            case 3:
            case 4:
            case 6:
            case 8:
                return BEAT / speed;
            default:
                return 0;
        }
    }

    private static boolean isGap(int g) {
        return g >= 0 && g <= WIDEST_GAP;
    }

    private static boolean isHow(int how) {
        return how >= 0 && how % 10 <= 1 && ticksOfOne(how / 10) != 0;
    }

    private int closingRefusal(int cycle, int phrase, int how, int tick, int g) {
        Cycle c = cycleAt(cycle);
        Phrase p = phraseAt(phrase);
        if (c == null || p == null || !isHow(how) || tick < 0 || !isGap(g)) {
            return BAD;
        }
        return c.size == 0 || p.size == 0 ? NO : FINE;
    }

    /**
     * How many ticks are wanting until the one, if a phrase is said so often from a tick of a
     * cycle without gaps; with LAST, until its last syllable would begin there.
     */
    private int wantingIn(int cycle, int phrase, int how, int tick, int said) {
        int length = lengthOf(cycle);
        Phrase p = phraseAt(phrase);
        if (length <= 0 || p == null) {
            return 0;
        }
        int last = how % 10;
        int syllables = said * p.size - last;
        // The tick is cut down first: it may be so great that a sum with it would wrap.
        return Math.floorMod(-(tick % length) - syllables * ticksOfOne(how / 10), length);
    }

    /** What is still wanting until the one when gaps have taken so many ticks. */
    private static int lessGaps(int wanting, int taken, int length) {
        return length <= 0 ? 0 : Math.floorMod(wanting - taken, length);
    }

    private boolean isLookedAt(int g) {
        return gridTicks > 0 && g % gridTicks == 0;
    }

    /** How many of the gaps looked at, taken twice, fill up what is wanting. */
    private int gapsFilling(int wanting, int length) {
        // A length is whole half beats and so even: an odd number is never filled by two gaps,
        // and gaps that fill an even one lie half a length apart.
        int apart = length / 2;
        if (apart <= 0 || wanting % 2 != 0) {
            return 0;
        }
        int filling = 0;
        for (int g = wanting / 2; g <= WIDEST_GAP; g += apart) {
            if (isLookedAt(g)) {
                filling++;
            }
        }
        return filling;
    }

    /** The i-th of these gaps; NONE if there are not so many. */
    private int gapFilling(int wanting, int length, int i) {
        int apart = length / 2;
        if (apart <= 0 || wanting % 2 != 0) {
            return NONE;
        }
        int ahead = i;
        for (int g = wanting / 2; g <= WIDEST_GAP; g += apart) {
            if (isLookedAt(g)) {
                if (ahead == 0) {
                    return g;
                }
                ahead--;
            }
        }
        return NONE;
    }

    // ---- rows of shapes

    private static boolean isStep(int d) {
        return d >= 1 && d <= WIDEST_STEP;
    }

    private static boolean isShape(int what) {
        return what >= SHRINKING && what <= HOURGLASS;
    }

    private static int shapeRows(Phrase p, int d, int what) {
        int rows = p.rowsBy(d);
        return what == HOURGLASS ? 2 * rows - 1 : rows;
    }

    /** At which place of the phrase a row of a shape begins; every row goes on to the phrase's end. */
    private static int shapeRowStart(Phrase p, int d, int what, int row) {
        int lastRow = p.rowsBy(d) - 1;
        if (what == GROWING) {
            return (lastRow - row) * d;
        }
        // The hourglass comes back over the same rows, but has the narrowest once.
        return row <= lastRow ? row * d : (2 * lastRow - row) * d;
    }

    /** A row of limbs. */
    private static final class Cycle {
        static final int MOST_LIMBS = 12;
        static final int MOST_HALVES = 18;
        static final int LIMB = 0;
        static final int CLAP = 1;
        static final int WAVE = 2;
        static final int COUNT = 3;

        final int[] kinds = new int[MOST_LIMBS];
        final int[] halves = new int[MOST_LIMBS];
        int size = 0;

        static boolean isKind(int kind) {
            return kind >= LIMB && kind <= COUNT;
        }

        /** Whether what is of one kind is of another, too: every kind is a limb, and a count a clap. */
        static boolean isUnder(int kind, int other) {
            return kind == other || other == LIMB || kind == COUNT && other == CLAP;
        }

        int take(int kind, int halvesOfIt) {
            if (size >= MOST_LIMBS) {
                return FULL;
            }
            kinds[size] = kind;
            halves[size] = halvesOfIt;
            size++;
            return size;
        }

        boolean limbIs(int i, int kind) {
            return i >= 0 && i < size && isUnder(kinds[i], kind);
        }

        int allTicks() {
            int all = 0;
            for (int i = 0; i < size; i++) {
                all += halves[i] * HALF;
            }
            return all;
        }

        int handlingAt(int tick) {
            int length = allTicks();
            if (length <= 0) {
                return NO;
            }
            int left = tick % length;
            for (int i = 0; i < size; i++) {
                int lasts = halves[i] * HALF;
                if (left < lasts) {
                    return 10 * i + deedAt(kinds[i], left, lasts);
                }
                left -= lasts;
            }
            return NO;
        }

        /** What is done at a tick of a limb that lasts so many: 1 a clap, 2 a wave, 3 a finger, 0 nothing. */
        static int deedAt(int kind, int tick, int lasts) {
            if (tick == 0) {
                return isUnder(kind, CLAP) ? 1 : kind == WAVE ? 2 : 0;
            }
            boolean wholeBeatBegins = tick % BEAT == 0 && tick + BEAT <= lasts;
            return kind == COUNT && wholeBeatBegins ? 3 : 0;
        }
    }

    /** A row of syllables 0 to 7 and rests, 8. */
    private static final class Phrase {
        static final int MOST_SYLLABLES = 60;
        static final int REST = 8;

        final byte[] row = new byte[MOST_SYLLABLES];
        int size = 0;

        int at(int i) {
            return i >= 0 && i < size ? row[i] : NONE;
        }

        /** How many rows are left one after the other, if d syllables go from the front each time. */
        int rowsBy(int d) {
            return d <= 0 ? 0 : (size + d - 1) / d;
        }
    }

    /** A row of bytes, or missing. */
    private static final class Sheet {
        static final int MOST_PLACES = 60;
        static final int MISSING = -1;

        final byte[] row = new byte[MOST_PLACES];
        int places = MISSING;

        boolean isMissing() {
            return places == MISSING;
        }

        void layOut(int n) {
            for (int i = 0; i < row.length; i++) {
                row[i] = 0;
            }
            places = n;
        }

        int change(int place, byte v) {
            if (place < 0 || place >= places) {
                return INDEX;
            }
            int was = row[place];
            row[place] = v;
            return was;
        }
    }

    /** The bytes on which a phrase is written, and how they are read. */
    private static final class Tape {
        static final int MOST_BYTES = 60;
        static final int DEEPEST = 6;

        final byte[] bytes = new byte[MOST_BYTES];
        int size = 0;

        // The reader's own rows, kept so that reading makes nothing new.
        private final byte[] spoken = new byte[Phrase.MOST_SYLLABLES];
        private final int[] openedAt = new int[DEEPEST];
        private final int[] openedTimes = new int[DEEPEST];

        boolean hasRoomFor(int more) {
            return size + more <= MOST_BYTES;
        }

        /** Writes a number's four bytes, the highest first. */
        void write(int number) {
            for (int shift = 24; shift >= 0; shift -= 8) {
                if (size < MOST_BYTES) {
                    bytes[size] = (byte) (number >> shift);
                    size++;
                }
            }
        }

        /** The tape becomes a phrase's row: how many syllables; else the phrase stays as it was. */
        int readInto(Phrase p) {
            int fault = faultPlace();
            if (fault >= 0) {
                return -100 - fault;
            }
            int many = speak();
            if (many < 0) {
                return FULL;
            }
            System.arraycopy(spoken, 0, p.row, 0, many);
            p.size = many;
            return many;
        }

        /** Where the tape goes wrong, its end if that comes too soon; -1 if nowhere. */
        private int faultPlace() {
            int open = 0;
            boolean itemIsDue = true;
            for (int i = 0; i < size; i++) {
                int b = bytes[i];
                if (b == '(') {
                    if (open >= DEEPEST) {
                        return i;
                    }
                    open++;
                    itemIsDue = true;
                } else if (b == ')') {
                    if (itemIsDue || open == 0) {
                        return i;
                    }
                    open--;
                } else if (isTimes(b)) {
                    itemIsDue = true;
                } else if (syllableOf(b) >= 0) {
                    itemIsDue = false;
                } else {
                    return i;
                }
            }
            return itemIsDue || open > 0 ? size : -1;
        }

        /** Writes a faultless tape out, syllable by syllable: how many; -1 if they are too many. */
        private int speak() {
            int many = 0;
            int times = 1;
            int open = 0;
            for (int i = 0; i < size; i++) {
                int b = bytes[i];
                if (isTimes(b)) {
                    // No more than this matters: so often, even one syllable is too many.
                    times = Math.min(times * (b - '0'), Phrase.MOST_SYLLABLES + 1);
                } else if (b == '(' && open < DEEPEST) {
                    openedAt[open] = many;
                    openedTimes[open] = times;
                    open++;
                    times = 1;
                } else if (b == ')' && open > 0) {
                    open--;
                    many = sayAgain(openedAt[open], many, openedTimes[open]);
                } else if (many < spoken.length) {
                    spoken[many] = (byte) syllableOf(b);
                    many = sayAgain(many, many + 1, times);
                    times = 1;
                } else {
                    return -1;
                }
                if (many < 0) {
                    return -1;
                }
            }
            return many;
        }

        /** Says what stands from a place to the end so often in all: the new end; -1 if it is too far. */
        private int sayAgain(int from, int end, int times) {
            int piece = end - from;
            int newEnd = from + piece * times;
            if (from < 0 || piece <= 0 || newEnd > spoken.length) {
                return -1;
            }
            for (int i = end; i < newEnd; i++) {
                spoken[i] = spoken[i - piece];
            }
            return newEnd;
        }

        private static boolean isTimes(int b) {
            return b >= '2' && b <= '9';
        }

        /** The syllable that a byte is written for; -1 if none. */
        private static int syllableOf(int b) {
            if (b == '-') {
                return Phrase.REST;
            }
            return b >= 'a' && b <= 'h' ? b - 'a' : -1;
        }
    }

    /** Looks by which cuts of a phrase a sheet's row comes. */
    private static final class Turns {
        static final long MOST_WAYS = 1000000000L;

        private final int[] fits = new int[Phrase.MOST_SYLLABLES + 1];
        private final long[] waysBehind = new long[Sheet.MOST_PLACES + 2];

        /**
         * By how many rows of cuts the sheet's row comes. It goes from the sheet's end to its
         * front; waysBehind[k] is the sum of the ways of all that is left from k, k + 1, .. on, so
         * that all cuts of 1 to fits[i] places from place i of the phrase are one difference.
         */
        int allWays(Phrase p, Sheet h) {
            int end = h.places;
            if (end <= 0 || end > Sheet.MOST_PLACES) {
                return 0;
            }
            forgetFits();
            waysBehind[end + 1] = 0;
            waysBehind[end] = 1;
            long ways = 0;
            for (int at = end - 1; at >= 0; at--) {
                fitFrom(p, h.row[at]);
                ways = Math.min(waysFrom(p, at, end), MOST_WAYS);
                waysBehind[at] = waysBehind[at + 1] + ways;
            }
            return (int) ways;
        }

        /**
         * The fewest cuts. A part of a cut is a cut too, so taking the longest each time is best:
         * whatever follows a shorter one also follows the longest, cut down at its front.
         */
        int fewestCuts(Phrase p, Sheet h) {
            if (h.places <= 0) {
                return NONE;
            }
            int cuts = 0;
            int at = 0;
            while (at < h.places) {
                int longest = longestCut(p, h, at);
                if (longest <= 0) {
                    return NONE;
                }
                at += longest;
                cuts++;
            }
            return cuts;
        }

        private void forgetFits() {
            for (int i = 0; i < fits.length; i++) {
                fits[i] = 0;
            }
        }

        /** fits[i], how far the phrase from i on goes along with the sheet, comes one place ahead. */
        private void fitFrom(Phrase p, int wanted) {
            for (int i = 0; i < p.size; i++) {
                fits[i] = p.row[i] == wanted ? fits[i + 1] + 1 : 0;
            }
        }

        private long waysFrom(Phrase p, int at, int end) {
            long ways = 0;
            for (int i = 0; i < p.size; i++) {
                int behindLongest = Math.min(at + fits[i], end) + 1;
                ways += waysBehind[at + 1] - waysBehind[behindLongest];
            }
            return ways;
        }

        private static int longestCut(Phrase p, Sheet h, int at) {
            int longest = 0;
            for (int i = 0; i < p.size; i++) {
                int most = Math.min(p.size - i, h.places - at);
                int fit = 0;
                while (fit < most && p.row[i + fit] == h.row[at + fit]) {
                    fit++;
                }
                longest = Math.max(longest, fit);
            }
            return longest;
        }
    }

    /** Which hand each syllable has, and how a phrase is played with the fewest strains. */
    private static final class Hands {
        static final int EITHER = 3;

        private final int[] handOf = {EITHER, EITHER, EITHER, EITHER, EITHER, EITHER, EITHER, EITHER};

        // The fewest strains from a place of the phrase on, if it is played by the left (right)
        // where it may be either.
        private final int[] fewestByLeft = new int[Phrase.MOST_SYLLABLES];
        private final int[] fewestByRight = new int[Phrase.MOST_SYLLABLES];

        int change(int syllable, int v) {
            if (syllable < 0 || syllable >= handOf.length || v < 0 || v > EITHER) {
                return BAD;
            }
            int was = handOf[syllable];
            handOf[syllable] = v;
            return was;
        }

        int fewestStrains(Phrase p) {
            weigh(p);
            return Math.min(fewestByLeft[0], fewestByRight[0]);
        }

        /** The hand of a place in the play: at each place left, unless right leads to fewer strains. */
        int handAt(Phrase p, int place) {
            weigh(p);
            int used = 0;
            for (int i = 0; i <= place && i < p.size; i++) {
                int left = usedAt(p, i, 0);
                int right = usedAt(p, i, 1);
                int byLeft = strainOf(used, left) + fewestByLeft[i];
                int byRight = strainOf(used, right) + fewestByRight[i];
                used = byLeft <= byRight ? left : right;
            }
            return used == 0 ? NONE : used - 1;
        }

        private void weigh(Phrase p) {
            for (int i = p.size - 1; i >= 0; i--) {
                fewestByLeft[i] = fewestBehind(p, i, usedAt(p, i, 0));
                fewestByRight[i] = fewestBehind(p, i, usedAt(p, i, 1));
            }
        }

        private int fewestBehind(Phrase p, int i, int used) {
            int next = i + 1;
            if (next >= p.size) {
                return 0;
            }
            int byLeft = strainOf(used, usedAt(p, next, 0)) + fewestByLeft[next];
            int byRight = strainOf(used, usedAt(p, next, 1)) + fewestByRight[next];
            return Math.min(byLeft, byRight);
        }

        /** The hands in use at a place: 0 none, 1 left, 2 right, 3 both, each a bit; told what either is. */
        private int usedAt(Phrase p, int i, int either) {
            int syllable = p.at(i);
            if (syllable < 0 || syllable >= handOf.length) {
                return 0;
            }
            int hand = handOf[syllable];
            return (hand == EITHER ? either : hand) + 1;
        }

        private static int strainOf(int used, int usedNext) {
            return (used & usedNext) != 0 ? 1 : 0;
        }
    }

    /** A row of parts, each kept as its ticks and the gap behind it. */
    private static final class Solo {
        static final int MOST_PARTS = 20;
        static final int MOST_TIMES = 9;

        private final int[] partTicks = new int[MOST_PARTS];
        private final int[] partGaps = new int[MOST_PARTS];
        int size = 0;

        int take(int ticksOfAll, int gapBehind) {
            if (size >= MOST_PARTS) {
                return FULL;
            }
            partTicks[size] = ticksOfAll;
            partGaps[size] = gapBehind;
            size++;
            return size;
        }

        /** At which tick from the beginning a part ends, its gap told, too. */
        int endOf(int part) {
            int end = 0;
            for (int i = 0; i <= part && i < size; i++) {
                end += partTicks[i] + partGaps[i];
            }
            return end;
        }

        int endWithoutLastGap() {
            return size <= 0 ? 0 : endOf(size - 1) - partGaps[size - 1];
        }

        int endsAtOne(int length) {
            if (length <= 0) {
                return 0;
            }
            int landed = 0;
            int end = 0;
            for (int i = 0; i < size; i++) {
                end += partTicks[i] + partGaps[i];
                if (end % length == 0) {
                    landed++;
                }
            }
            return landed;
        }
    }
}
