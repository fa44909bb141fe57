import java.util.ArrayList;
import java.util.List;

/** Promises 12 to 18: lands, gaps, gap, start, doubles, least, grid; each against plain search. */
public final class ClosingsTest {
    private static final Check CHECK = new Check();
    private static final int[] SPEEDS = {1, 2, 3, 4, 6, 8};

    public static void main(String[] args) {
        int[][] cycles = {{1}, {8}, {7}, {9, 5}, {18, 18, 18}, {18, 18, 18, 18, 18, 18, 18, 18, 18, 18, 18, 18}};
        String[] texts = {"a", "abc", "5(ab-)", "4(7ab)c-"};
        int[] ticks = {0, 1, 6, 95, 1000003, Integer.MAX_VALUE};
        for (int[] cycle : cycles) {
            for (String text : texts) {
                for (int tick : ticks) {
                    search(cycle, text, tick);
                }
            }
        }
        theGridIsTold();
        gapsGoUpTo96();
        theLastPairIsFound();
        wrongOnesAreRefused();
        CHECK.end("ClosingsTest");
    }

    private static void search(int[] limbs, String text, int tick) {
        CountBook x = new CountBook();
        for (int halves : limbs) {
            x.limb(3, 1, halves);
        }
        long length = x.length(3);
        int n = Check.say(x, 5, text);
        int[] grids = {6, 1, 7, 24};
        for (int grid : grids) {
            x.grid(grid);
            for (int speed : SPEEDS) {
                for (int last = 0; last <= 1; last++) {
                    asks(x, 10 * speed + last, tick, grid, length, n);
                }
            }
        }
    }

    private static void asks(CountBook x, int how, int tick, int grid, long length, int n) {
        int each = 24 / (how / 10);
        long closing = tick + 3L * n * each - how % 10 * each;
        long closings = tick + 9L * n * each - how % 10 * each;
        String of = "(3, 5, " + how + ", " + tick + ") with grid " + grid + ", length " + length;
        List<Integer> gaps = new ArrayList<>();
        int pairs = 0;
        int least = CountBook.NONE;
        int together = 1000;
        for (int g = 0; g <= 96; g += grid) {
            if ((closing + 2 * g) % length == 0) {
                gaps.add(g);
            }
            for (int h = 0; h <= 96; h += grid) {
                if ((closings + 6 * g + 2 * h) % length == 0) {
                    pairs++;
                    if (g + h < together) {
                        together = g + h;
                        least = 1000 * g + h;
                    }
                }
            }
        }
        CHECK.due("gaps" + of, x.gaps(3, 5, how, tick), gaps.size());
        for (int i = 0; i < gaps.size(); i++) {
            CHECK.due("gap " + i + of, x.gap(3, 5, how, tick, i), gaps.get(i));
        }
        CHECK.due("gap behind" + of, x.gap(3, 5, how, tick, gaps.size()), CountBook.NONE);
        CHECK.due("doubles" + of, x.doubles(3, 5, how, tick), pairs);
        CHECK.due("least" + of, x.least(3, 5, how, tick), least);
        for (int g = 0; g <= 96; g += 1) {
            CHECK.due("lands, " + g + of, x.lands(3, 5, how, tick, g), (closing + 2 * g) % length == 0 ? 1 : 0);
        }
        for (int g = 0; g <= 96; g += 31) {
            int start = x.start(3, 5, how, g);
            CHECK.due("start is of the cycle, " + g + of, start >= 0 && start < length ? 1 : 0, 1);
            CHECK.due("start, " + g + of, (closing - tick + start + 2 * g) % length, 0);
        }
    }

    private static void theGridIsTold() {
        CountBook x = new CountBook();
        CHECK.due("grid(1)", x.grid(1), 6);
        CHECK.due("grid(24)", x.grid(24), 1);
        int[] bad = {0, -1, 25, Integer.MAX_VALUE, Integer.MIN_VALUE};
        for (int v : bad) {
            CHECK.due("grid(" + v + ")", x.grid(v), CountBook.BAD);
        }
        CHECK.due("grid(7)", x.grid(7), 24);
        CHECK.due("grid(7) again", x.grid(7), 7);
    }

    private static void gapsGoUpTo96() {
        CountBook x = new CountBook();
        x.limb(0, 0, 1);
        Check.say(x, 0, "aa");
        // 36 ticks of closing, 12 of cycle: 0, 6, 12, .. 96 land.
        x.grid(1);
        CHECK.due("gaps by 1", x.gaps(0, 0, 40, 0), 17);
        CHECK.due("the last", x.gap(0, 0, 40, 0, 16), 96);
        x.grid(18);
        CHECK.due("gaps by 18", x.gaps(0, 0, 40, 0), 6);
        CHECK.due("the last by 18", x.gap(0, 0, 40, 0, 5), 90);
        CHECK.due("pairs by 18", x.doubles(0, 0, 40, 0), 36);
        CHECK.due("the least", x.least(0, 0, 40, 0), 0);
        CHECK.due("the least, LAST", x.least(0, 0, 41, 0), CountBook.NONE);
    }

    private static void theLastPairIsFound() {
        CountBook x = new CountBook();
        for (int i = 0; i < 12; i++) {
            x.limb(0, 0, 18);
        }
        Check.say(x, 0, "a");
        // 9 * 24 ticks of syllables and 6 * 96 + 2 * 96 of gaps: only the widest gaps go so far.
        x.grid(24);
        CHECK.due("the only pair", x.doubles(0, 0, 10, 2592 - 216 - 768), 1);
        CHECK.due("the least is the last", x.least(0, 0, 10, 2592 - 216 - 768), 96096);
        CHECK.due("a tick earlier", x.least(0, 0, 10, 2592 - 216 - 769), CountBook.NONE);
    }

    private static void wrongOnesAreRefused() {
        CountBook x = new CountBook();
        x.limb(0, 1, 8);
        Check.say(x, 0, "abcd");
        int[] hows = {0, 1, -1, 9, 12, 19, 42, 50, 51, 70, 90, 100, 4, 240, -40, Integer.MAX_VALUE, Integer.MIN_VALUE};
        for (int how : hows) {
            refused(x, 0, 0, how, 0, CountBook.BAD);
        }
        refused(x, -1, 0, 40, 0, CountBook.BAD);
        refused(x, 4, 0, 40, 0, CountBook.BAD);
        refused(x, 0, -1, 40, 0, CountBook.BAD);
        refused(x, 0, 6, 40, 0, CountBook.BAD);
        refused(x, 0, 1, 40, 0, CountBook.NO);
        refused(x, 1, 0, 40, 0, CountBook.NO);
        refused(x, 1, 0, 45, 0, CountBook.BAD);
        int[] ticks = {-1, Integer.MIN_VALUE};
        for (int tick : ticks) {
            for (int cycle = 0; cycle < 2; cycle++) {
                CHECK.due("lands", x.lands(cycle, 0, 40, tick, 0), CountBook.BAD);
                CHECK.due("gaps", x.gaps(cycle, 0, 40, tick), CountBook.BAD);
                CHECK.due("gap", x.gap(cycle, 0, 40, tick, 0), CountBook.BAD);
                CHECK.due("doubles", x.doubles(cycle, 0, 40, tick), CountBook.BAD);
                CHECK.due("least", x.least(cycle, 0, 40, tick), CountBook.BAD);
            }
        }
        int[] gaps = {-1, 97, Integer.MAX_VALUE, Integer.MIN_VALUE};
        for (int g : gaps) {
            for (int cycle = 0; cycle < 2; cycle++) {
                CHECK.due("lands by " + g, x.lands(cycle, 0, 40, 0, g), CountBook.BAD);
                CHECK.due("start by " + g, x.start(cycle, 0, 40, g), CountBook.BAD);
            }
        }
        CHECK.due("gap -1", x.gap(0, 0, 40, 0, -1), CountBook.BAD);
        CHECK.due("gap -1 of an empty cycle", x.gap(1, 0, 40, 0, -1), CountBook.BAD);
        CHECK.due("gap MAX", x.gap(0, 0, 40, 0, Integer.MAX_VALUE), CountBook.NONE);
    }

    private static void refused(CountBook x, int cycle, int phrase, int how, int tick, int why) {
        String of = "(" + cycle + ", " + phrase + ", " + how + ", " + tick + ")";
        CHECK.due("lands" + of, x.lands(cycle, phrase, how, tick, 0), why);
        CHECK.due("gaps" + of, x.gaps(cycle, phrase, how, tick), why);
        CHECK.due("gap" + of, x.gap(cycle, phrase, how, tick, 0), why);
        CHECK.due("start" + of, x.start(cycle, phrase, how, 0), why);
        CHECK.due("doubles" + of, x.doubles(cycle, phrase, how, tick), why);
        CHECK.due("least" + of, x.least(cycle, phrase, how, tick), why);
    }
}
