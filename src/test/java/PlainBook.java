import java.math.BigInteger;
import java.util.ArrayList;
import java.util.Collections;
import java.util.List;

/**
 * The document once more, as plainly as it can be written: rows written out, all gaps tried, faults
 * found by reading the tape with one method for a row and one for an item. It shares nothing with
 * CountBook but the face.
 */
public final class PlainBook {
    private static final int BAD = -1000000001, NO = -1000000002, FULL = -1000000003, NONE = -1000000005;
    private static final int NOTHING = -1000000011, INDEX = -1000000013, SIZE = -1000000014;
    private static final List<Integer> SPEEDS = List.of(1, 2, 3, 4, 6, 8);

    /** The place at which the tape goes wrong. */
    private static final class Fault extends Exception {
        private static final long serialVersionUID = 1L;
        final int place;

        Fault(int place) {
            this.place = place;
        }
    }

    private final List<List<int[]>> cycles = new ArrayList<>();
    private final List<List<Integer>> phrases = new ArrayList<>();
    private List<Integer> tape = new ArrayList<>();
    private int place = 0;
    private int gridTicks = 6;
    private final int[] hands = {3, 3, 3, 3, 3, 3, 3, 3};
    private final List<int[]> solo = new ArrayList<>();
    private final byte[][] sheets = new byte[2][];

    public PlainBook() {
        for (int i = 0; i < 4; i++) {
            cycles.add(new ArrayList<>());
        }
        for (int i = 0; i < 6; i++) {
            phrases.add(List.of());
        }
    }

    // ---- cycles

    public int limb(int cycle, int kind, int halves) {
        if (!in(cycle, 0, 3) || !in(kind, 0, 3) || !in(halves, 1, 18)) {
            return BAD;
        }
        if (cycles.get(cycle).size() == 12) {
            return FULL;
        }
        cycles.get(cycle).add(new int[] {kind, halves});
        return cycles.get(cycle).size();
    }

    public int isOf(int cycle, int i, int kind) {
        if (!in(cycle, 0, 3) || !in(i, 0, cycles.get(cycle).size() - 1) || !in(kind, 0, 3)) {
            return BAD;
        }
        int is = cycles.get(cycle).get(i)[0];
        return kind == 0 || kind == is || kind == 1 && is == 3 ? 1 : 0;
    }

    public int clear(int cycle) {
        if (!in(cycle, 0, 3)) {
            return BAD;
        }
        int had = cycles.get(cycle).size();
        cycles.get(cycle).clear();
        return had;
    }

    public int length(int cycle) {
        return in(cycle, 0, 3) ? deeds(cycle).size() : BAD;
    }

    public int handling(int cycle, int tick) {
        if (!in(cycle, 0, 3) || tick < 0) {
            return BAD;
        }
        List<Integer> deeds = deeds(cycle);
        return deeds.isEmpty() ? NO : deeds.get(tick % deeds.size());
    }

    /** The handling of every tick of a cycle, written out. */
    private List<Integer> deeds(int cycle) {
        List<Integer> deeds = new ArrayList<>();
        for (int i = 0; i < cycles.get(cycle).size(); i++) {
            int kind = cycles.get(cycle).get(i)[0];
            int begins = deeds.size();
            int ends = begins + 12 * cycles.get(cycle).get(i)[1];
            deeds.addAll(Collections.nCopies(ends - begins, 10 * i));
            deeds.set(begins, 10 * i + new int[] {0, 1, 2, 1}[kind]);
            for (int beat = begins + 24; kind == 3 && beat + 24 <= ends; beat += 24) {
                deeds.set(beat, 10 * i + 3);
            }
        }
        return deeds;
    }

    // ---- phrases

    public int feed(int a, int b, int c) {
        if (tape.size() + 12 > 60) {
            return FULL;
        }
        for (int number : new int[] {a, b, c}) {
            tape.add(number >>> 24);
            tape.add(number >>> 16 & 255);
            tape.add(number >>> 8 & 255);
            tape.add(number & 255);
        }
        return tape.size();
    }

    public int trim(int n) {
        if (!in(n, 0, tape.size())) {
            return BAD;
        }
        tape = new ArrayList<>(tape.subList(0, n));
        return n;
    }

    public int phrase(int phrase) {
        try {
            if (!in(phrase, 0, 5)) {
                return BAD;
            }
            place = 0;
            List<Integer> row = row(0);
            if (place < tape.size()) {
                throw new Fault(place);
            }
            if (row.size() > 60) {
                return FULL;
            }
            phrases.set(phrase, row);
            return row.size();
        } catch (Fault fault) {
            return -100 - fault.place;
        } finally {
            tape = new ArrayList<>();
        }
    }

    private char next() throws Fault {
        if (place >= tape.size()) {
            throw new Fault(tape.size());
        }
        return (char) (int) tape.get(place);
    }

    private List<Integer> row(int depth) throws Fault {
        List<Integer> row = item(depth);
        while (place < tape.size() && next() != ')') {
            row = joined(row, item(depth));
        }
        return row;
    }

    private List<Integer> item(int depth) throws Fault {
        char sign = next();
        if ("abcdefgh-".indexOf(sign) >= 0) {
            place++;
            return List.of("abcdefgh-".indexOf(sign));
        }
        if ("23456789".indexOf(sign) >= 0) {
            place++;
            List<Integer> one = item(depth);
            List<Integer> all = one;
            for (int i = 1; i < sign - '0'; i++) {
                all = joined(all, one);
            }
            return all;
        }
        if (sign != '(' || depth == 6) {
            throw new Fault(place);
        }
        place++;
        List<Integer> row = row(depth + 1);
        if (next() != ')') {
            throw new Fault(place);
        }
        place++;
        return row;
    }

    /** Both rows; what is behind the 61st is not kept: it is too many already. */
    private static List<Integer> joined(List<Integer> a, List<Integer> b) {
        List<Integer> both = new ArrayList<>(a);
        both.addAll(b);
        return both.subList(0, Math.min(61, both.size()));
    }

    public int syllable(int phrase, int i) {
        if (!in(phrase, 0, 5) || i < 0) {
            return BAD;
        }
        return i < phrases.get(phrase).size() ? phrases.get(phrase).get(i) : NONE;
    }

    public int ticks(int phrase, int speed) {
        return in(phrase, 0, 5) && SPEEDS.contains(speed) ? phrases.get(phrase).size() * 24 / speed : BAD;
    }

    // ---- closings

    public int lands(int cycle, int phrase, int how, int tick, int g) {
        int refused = refusedClosing(cycle, phrase, how, tick, g);
        return refused != 0 ? refused : closingLands(cycle, phrase, how, tick, g) ? 1 : 0;
    }

    public int gaps(int cycle, int phrase, int how, int tick) {
        int refused = refusedClosing(cycle, phrase, how, tick, 0);
        return refused != 0 ? refused : landing(cycle, phrase, how, tick).size();
    }

    public int gap(int cycle, int phrase, int how, int tick, int i) {
        int refused = i < 0 ? BAD : refusedClosing(cycle, phrase, how, tick, 0);
        if (refused != 0) {
            return refused;
        }
        List<Integer> landing = landing(cycle, phrase, how, tick);
        return i < landing.size() ? landing.get(i) : NONE;
    }

    public int start(int cycle, int phrase, int how, int g) {
        int refused = refusedClosing(cycle, phrase, how, 0, g);
        for (int tick = 0; refused == 0; tick++) {
            if (closingLands(cycle, phrase, how, tick, g)) {
                return tick;
            }
        }
        return refused;
    }

    public int doubles(int cycle, int phrase, int how, int tick) {
        int refused = refusedClosing(cycle, phrase, how, tick, 0);
        return refused != 0 ? refused : pairs(cycle, phrase, how, tick).size();
    }

    public int least(int cycle, int phrase, int how, int tick) {
        int refused = refusedClosing(cycle, phrase, how, tick, 0);
        if (refused != 0) {
            return refused;
        }
        int[] best = null;
        for (int[] pair : pairs(cycle, phrase, how, tick)) {
            int more = best == null ? -1 : pair[0] + pair[1] - best[0] - best[1];
            if (best == null || more < 0 || more == 0 && pair[0] < best[0]) {
                best = pair;
            }
        }
        return best == null ? NONE : 1000 * best[0] + best[1];
    }

    public int grid(int v) {
        if (!in(v, 1, 24)) {
            return BAD;
        }
        int was = gridTicks;
        gridTicks = v;
        return was;
    }

    private int refusedClosing(int cycle, int phrase, int how, int tick, int g) {
        boolean isHow = false;
        for (int speed : SPEEDS) {
            isHow |= how == 10 * speed || how == 10 * speed + 1;
        }
        if (!in(cycle, 0, 3) || !in(phrase, 0, 5) || !isHow || tick < 0 || !in(g, 0, 96)) {
            return BAD;
        }
        return cycles.get(cycle).isEmpty() || phrases.get(phrase).isEmpty() ? NO : 0;
    }

    private boolean closingLands(int cycle, int phrase, int how, int tick, int g) {
        return isOne(cycle, tick + 3L * ticks(phrase, how / 10) + 2L * g - early(how));
    }

    private static int early(int how) {
        return how % 10 == 1 ? 24 / (how / 10) : 0;
    }

    private boolean isOne(int cycle, long tick) {
        return tick % length(cycle) == 0;
    }

    private List<Integer> landing(int cycle, int phrase, int how, int tick) {
        List<Integer> landing = new ArrayList<>();
        for (int g = 0; g <= 96; g += gridTicks) {
            if (closingLands(cycle, phrase, how, tick, g)) {
                landing.add(g);
            }
        }
        return landing;
    }

    private List<int[]> pairs(int cycle, int phrase, int how, int tick) {
        List<int[]> pairs = new ArrayList<>();
        int length = length(cycle);
        for (int g = 0; g <= 96; g += gridTicks) {
            long closing = 3L * ticks(phrase, how / 10) + 2L * g;
            for (int h = 0; h <= 96; h += gridTicks) {
                if ((tick + 3 * closing + 2L * h - early(how)) % length == 0) {
                    pairs.add(new int[] {g, h});
                }
            }
        }
        return pairs;
    }

    // ---- shapes, turns

    public int shape(int phrase, int d, int what) {
        int refused = refusedShape(phrase, d, what);
        return refused != 0 ? refused : written(phrase, d, what).size();
    }

    public int shaped(int phrase, int d, int what, int i) {
        int refused = i < 0 ? BAD : refusedShape(phrase, d, what);
        if (refused != 0) {
            return refused;
        }
        List<Integer> shape = written(phrase, d, what);
        return i < shape.size() ? shape.get(i) : NONE;
    }

    private int refusedShape(int phrase, int d, int what) {
        if (!in(phrase, 0, 5) || !in(d, 1, 9) || !in(what, 0, 2)) {
            return BAD;
        }
        return phrases.get(phrase).isEmpty() ? NO : 0;
    }

    private List<Integer> written(int phrase, int d, int what) {
        List<List<Integer>> shrinking = new ArrayList<>();
        List<Integer> left = phrases.get(phrase);
        while (!left.isEmpty()) {
            shrinking.add(left);
            left = left.subList(Math.min(d, left.size()), left.size());
        }
        List<List<Integer>> growing = new ArrayList<>(shrinking);
        Collections.reverse(growing);
        List<List<Integer>> rows = new ArrayList<>(what == 1 ? growing : shrinking);
        if (what == 2) {
            rows.addAll(growing.subList(1, growing.size()));
        }
        List<Integer> written = new ArrayList<>();
        rows.forEach(written::addAll);
        return written;
    }

    public int ways(int phrase, int sheet) {
        int refused = refusedTurn(phrase, sheet);
        if (refused != 0) {
            return refused;
        }
        List<Integer> turn = turn(sheet);
        List<BigInteger> ways = new ArrayList<>(List.of(BigInteger.ONE));
        for (int end = 1; end <= turn.size(); end++) {
            BigInteger sum = BigInteger.ZERO;
            for (int begin = 0; begin < end; begin++) {
                long places = placesOf(phrase, turn.subList(begin, end));
                sum = sum.add(ways.get(begin).multiply(BigInteger.valueOf(places)));
            }
            ways.add(sum);
        }
        return turn.isEmpty() ? 0 : ways.get(turn.size()).min(BigInteger.valueOf(1000000000)).intValue();
    }

    public int cuts(int phrase, int sheet) {
        int refused = refusedTurn(phrase, sheet);
        if (refused != 0) {
            return refused;
        }
        List<Integer> turn = turn(sheet);
        List<Integer> fewest = new ArrayList<>(List.of(0));
        for (int end = 1; end <= turn.size(); end++) {
            int best = 1000;
            for (int begin = 0; begin < end; begin++) {
                if (fewest.get(begin) + 1 < best && placesOf(phrase, turn.subList(begin, end)) > 0) {
                    best = fewest.get(begin) + 1;
                }
            }
            fewest.add(best);
        }
        return turn.isEmpty() || fewest.get(turn.size()) >= 1000 ? NONE : fewest.get(turn.size());
    }

    private int refusedTurn(int phrase, int sheet) {
        if (!in(phrase, 0, 5) || !in(sheet, 0, 1)) {
            return BAD;
        }
        return sheets[sheet] == null ? NOTHING : 0;
    }

    private List<Integer> turn(int sheet) {
        List<Integer> turn = new ArrayList<>();
        for (byte b : sheets[sheet]) {
            turn.add((int) b);
        }
        return turn;
    }

    private long placesOf(int phrase, List<Integer> cut) {
        List<Integer> row = phrases.get(phrase);
        long places = 0;
        for (int i = 0; i + cut.size() <= row.size(); i++) {
            places += row.subList(i, i + cut.size()).equals(cut) ? 1 : 0;
        }
        return places;
    }

    // ---- hands

    public int hand(int syllable, int v) {
        if (!in(syllable, 0, 7) || !in(v, 0, 3)) {
            return BAD;
        }
        int was = hands[syllable];
        hands[syllable] = v;
        return was;
    }

    public int strains(int phrase) {
        if (!in(phrase, 0, 5)) {
            return BAD;
        }
        return phrases.get(phrase).isEmpty() ? NO : strainsOf(play(phrase));
    }

    public int plays(int phrase, int i) {
        if (!in(phrase, 0, 5) || i < 0) {
            return BAD;
        }
        if (phrases.get(phrase).isEmpty()) {
            return NO;
        }
        if (i >= phrases.get(phrase).size()) {
            return BAD;
        }
        char by = play(phrase).charAt(i);
        return by == '-' ? NONE : by - '0';
    }

    /** THE PLAY as a text, a sign for each syllable: of all plays that end with one hand only the best goes on. */
    private String play(int phrase) {
        List<String> best = List.of("");
        for (int syllable : phrases.get(phrase)) {
            int hand = syllable == 8 ? -1 : hands[syllable];
            String signs = hand < 0 ? "-" : hand == 3 ? "01" : String.valueOf(hand);
            List<String> next = new ArrayList<>();
            for (char sign : signs.toCharArray()) {
                List<String> ending = new ArrayList<>();
                best.forEach(play -> ending.add(play + sign));
                next.add(bestOf(ending));
            }
            best = next;
        }
        return bestOf(best);
    }

    private static String bestOf(List<String> plays) {
        String best = plays.get(0);
        for (String play : plays) {
            int fewer = strainsOf(play) - strainsOf(best);
            if (fewer < 0 || fewer == 0 && play.compareTo(best) < 0) {
                best = play;
            }
        }
        return best;
    }

    private static int strainsOf(String play) {
        int strains = 0;
        for (int i = 1; i < play.length(); i++) {
            boolean common = List.of("00", "11", "22", "02", "20", "12", "21").contains(play.substring(i - 1, i + 1));
            strains += common ? 1 : 0;
        }
        return strains;
    }

    // ---- solos

    public int join(int phrase, int speed, int times, int gap) {
        if (!in(phrase, 0, 5) || !SPEEDS.contains(speed) || !in(times, 1, 9) || !in(gap, 0, 96)) {
            return BAD;
        }
        if (phrases.get(phrase).isEmpty()) {
            return NO;
        }
        if (solo.size() == 20) {
            return FULL;
        }
        solo.add(new int[] {times * ticks(phrase, speed), gap});
        return solo.size();
    }

    public int drop() {
        int had = solo.size();
        solo.clear();
        return had;
    }

    public int account(int cycle, int i) {
        if (!in(cycle, 0, 3) || !in(i, 0, solo.size() - 1)) {
            return BAD;
        }
        return length(cycle) == 0 ? NO : end(i) % length(cycle);
    }

    public int landings(int cycle) {
        if (!in(cycle, 0, 3)) {
            return BAD;
        }
        if (length(cycle) == 0) {
            return NO;
        }
        int landed = 0;
        for (int i = 0; i < solo.size(); i++) {
            landed += isOne(cycle, end(i)) ? 1 : 0;
        }
        return landed;
    }

    public int home(int cycle) {
        if (!in(cycle, 0, 3)) {
            return BAD;
        }
        if (length(cycle) == 0 || solo.isEmpty()) {
            return NO;
        }
        int gap = 0;
        int ends = end(solo.size() - 1) - solo.get(solo.size() - 1)[1];
        while (!isOne(cycle, ends + gap)) {
            gap++;
        }
        return gap;
    }

    private int end(int part) {
        int end = 0;
        for (int i = 0; i <= part; i++) {
            end += solo.get(i)[0] + solo.get(i)[1];
        }
        return end;
    }

    // ---- sheets

    public int sheet(int s, int n) {
        if (!in(s, 0, 1) || n > 60) {
            return BAD;
        }
        if (n < 0) {
            return SIZE;
        }
        sheets[s] = new byte[n];
        return n;
    }

    public int mark(int s, int place, int v) {
        if (!in(s, 0, 1)) {
            return BAD;
        }
        if (sheets[s] == null) {
            return NOTHING;
        }
        if (!in(place, 0, sheets[s].length - 1)) {
            return INDEX;
        }
        int was = sheets[s][place];
        sheets[s][place] = (byte) v;
        return was;
    }

    public int copy(int phrase, int from, int s, int at, int many) {
        int refused = refusedTurn(phrase, s);
        if (refused != 0) {
            return refused;
        }
        boolean inPhrase = from >= 0 && (long) from + many <= phrases.get(phrase).size();
        boolean inSheet = at >= 0 && (long) at + many <= sheets[s].length;
        if (many < 0 || !inPhrase || !inSheet) {
            return INDEX;
        }
        for (int i = 0; i < many; i++) {
            sheets[s][at + i] = (byte) (int) phrases.get(phrase).get(from + i);
        }
        return many;
    }

    public int count(int what) {
        switch (what) {
            case 0: return cycles.stream().mapToInt(List::size).sum();
            case 1: return (int) phrases.stream().filter(row -> !row.isEmpty()).count();
            case 2: return phrases.stream().mapToInt(List::size).sum();
            case 3: return solo.size();
            case 4: return tape.size();
            case 5: return (sheets[0] == null ? 0 : 1) + (sheets[1] == null ? 0 : 1);
            default: return BAD;
        }
    }

    private static boolean in(int number, int least, int greatest) {
        return number >= least && number <= greatest;
    }
}
