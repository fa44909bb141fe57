/** Promises 2 to 6: limb, isOf, clear, length, handling. */
public final class CyclesTest {
    private static final Check CHECK = new Check();

    public static void main(String[] args) {
        limbsCome();
        limbRefuses();
        kindsAreUnderOneAnother();
        cyclesAreCleared();
        lengthsAreTicks();
        everyTickIsHandled();
        handlingRefuses();
        CHECK.end("CyclesTest");
    }

    private static void limbsCome() {
        CountBook x = new CountBook();
        for (int cycle = 0; cycle < 4; cycle++) {
            for (int i = 1; i <= 12; i++) {
                CHECK.due("limb " + i, x.limb(cycle, i % 4, i), i);
            }
            CHECK.due("limb 13", x.limb(cycle, 0, 1), CountBook.FULL);
            CHECK.due("a bad limb 13", x.limb(cycle, 4, 1), CountBook.BAD);
            CHECK.due("length", x.length(cycle), 78 * 12);
        }
        CHECK.due("count(0)", x.count(0), 48);
    }

    private static void limbRefuses() {
        CountBook x = new CountBook();
        int[][] bad = {{-1, 0, 1}, {4, 0, 1}, {0, -1, 1}, {0, 4, 1}, {0, 0, 0}, {0, 0, -1}, {0, 0, 19},
            {Integer.MIN_VALUE, 0, 1}, {0, Integer.MAX_VALUE, 1}, {0, 0, Integer.MAX_VALUE}};
        for (int[] b : bad) {
            CHECK.due("limb(" + b[0] + ", " + b[1] + ", " + b[2] + ")", x.limb(b[0], b[1], b[2]), CountBook.BAD);
        }
        CHECK.due("count(0)", x.count(0), 0);
        CHECK.due("limb(3, 3, 18)", x.limb(3, 3, 18), 1);
        CHECK.due("limb(3, 0, 1)", x.limb(3, 0, 1), 2);
    }

    private static void kindsAreUnderOneAnother() {
        CountBook x = new CountBook();
        int[][] is = {{1, 0, 0, 0}, {1, 1, 0, 0}, {1, 0, 1, 0}, {1, 1, 0, 1}};
        for (int kind = 0; kind < 4; kind++) {
            x.limb(2, kind, 3);
        }
        for (int i = 0; i < 4; i++) {
            for (int kind = 0; kind < 4; kind++) {
                CHECK.due("isOf(2, " + i + ", " + kind + ")", x.isOf(2, i, kind), is[i][kind]);
            }
        }
        int[][] bad = {{-1, 0, 0}, {4, 0, 0}, {2, -1, 0}, {2, 4, 0}, {2, 0, -1}, {2, 0, 4}, {1, 0, 0},
            {2, Integer.MAX_VALUE, 0}, {2, Integer.MIN_VALUE, 0}};
        for (int[] b : bad) {
            CHECK.due("isOf(" + b[0] + ", " + b[1] + ", " + b[2] + ")", x.isOf(b[0], b[1], b[2]), CountBook.BAD);
        }
    }

    private static void cyclesAreCleared() {
        CountBook x = new CountBook();
        x.limb(1, 1, 2);
        x.limb(1, 2, 2);
        x.limb(3, 2, 5);
        CHECK.due("clear(-1)", x.clear(-1), CountBook.BAD);
        CHECK.due("clear(4)", x.clear(4), CountBook.BAD);
        CHECK.due("count(0)", x.count(0), 3);
        CHECK.due("clear(1)", x.clear(1), 2);
        CHECK.due("clear(1) again", x.clear(1), 0);
        CHECK.due("isOf(1, 0, 0)", x.isOf(1, 0, 0), CountBook.BAD);
        CHECK.due("length(1)", x.length(1), 0);
        CHECK.due("length(3)", x.length(3), 60);
        CHECK.due("limb anew", x.limb(1, 3, 1), 1);
        CHECK.due("isOf anew", x.isOf(1, 0, 3), 1);
    }

    private static void lengthsAreTicks() {
        CountBook x = new CountBook();
        for (int i = 0; i < 12; i++) {
            x.limb(0, 3, 18);
        }
        CHECK.due("the longest", x.length(0), 2592);
        x.limb(1, 0, 1);
        CHECK.due("the shortest", x.length(1), 12);
        CHECK.due("length(-1)", x.length(-1), CountBook.BAD);
        CHECK.due("length(4)", x.length(4), CountBook.BAD);
    }

    private static void everyTickIsHandled() {
        CountBook x = new CountBook();
        int[][] limbs = {{3, 18}, {1, 4}, {2, 3}, {0, 1}, {3, 1}, {3, 2}, {3, 3}, {3, 4}, {2, 1}, {0, 6}, {1, 18}, {3, 5}};
        for (int[] limb : limbs) {
            x.limb(0, limb[0], limb[1]);
        }
        int length = x.length(0);
        int tick = 0;
        for (int i = 0; i < limbs.length; i++) {
            for (int in = 0; in < limbs[i][1] * 12; in++, tick++) {
                int want = 10 * i + deed(limbs[i][0], in, limbs[i][1] * 12);
                CHECK.due("handling(0, " + tick + ")", x.handling(0, tick), want);
                CHECK.due("handling a cycle on", x.handling(0, tick + length), want);
            }
        }
        CHECK.due("the ticks in all", tick, length);
    }

    private static int deed(int kind, int tick, int lasts) {
        if (tick == 0) {
            return new int[] {0, 1, 2, 1}[kind];
        }
        for (int beat = 24; kind == 3 && beat + 24 <= lasts; beat += 24) {
            if (beat == tick) {
                return 3;
            }
        }
        return 0;
    }

    private static void handlingRefuses() {
        CountBook x = new CountBook();
        CHECK.due("of an empty cycle", x.handling(0, 0), CountBook.NO);
        CHECK.due("tick -1 of an empty cycle", x.handling(0, -1), CountBook.BAD);
        x.limb(0, 3, 7);
        CHECK.due("handling(-1, 0)", x.handling(-1, 0), CountBook.BAD);
        CHECK.due("handling(4, 0)", x.handling(4, 0), CountBook.BAD);
        CHECK.due("handling(0, -1)", x.handling(0, -1), CountBook.BAD);
        CHECK.due("handling(0, MIN)", x.handling(0, Integer.MIN_VALUE), CountBook.BAD);
        // 2147483647 = 84 * 25565281 + 43
        CHECK.due("handling(0, MAX)", x.handling(0, Integer.MAX_VALUE), 0);
        CHECK.due("handling(0, MAX - 19)", x.handling(0, Integer.MAX_VALUE - 19), 3);
        CHECK.due("handling(0, MAX - 43)", x.handling(0, Integer.MAX_VALUE - 43), 1);
    }
}
