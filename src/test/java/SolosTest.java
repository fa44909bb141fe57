/** Promises 26 to 30: join, drop, account, landings, home. */
public final class SolosTest {
    private static final Check CHECK = new Check();

    public static void main(String[] args) {
        partsAreJoined();
        joinRefuses();
        partsKeepTheirTicks();
        soloAgainstPlainSums();
        homeIsTheLeastGap();
        landingsTellTheGaps();
        cyclesAreAsked();
        CHECK.end("SolosTest");
    }

    private static void partsAreJoined() {
        CountBook x = new CountBook();
        Check.say(x, 0, "abc");
        for (int i = 1; i <= 20; i++) {
            CHECK.due("join " + i, x.join(0, 8, 1 + i % 9, i), i);
        }
        CHECK.due("join 21", x.join(0, 8, 1, 0), CountBook.FULL);
        CHECK.due("join 21, none", x.join(1, 8, 1, 0), CountBook.NO);
        CHECK.due("join 21, bad", x.join(0, 5, 1, 0), CountBook.BAD);
        CHECK.due("count(3)", x.count(3), 20);
        CHECK.due("drop", x.drop(), 20);
        CHECK.due("drop again", x.drop(), 0);
        CHECK.due("count(3)", x.count(3), 0);
        CHECK.due("join anew", x.join(0, 8, 1, 0), 1);
    }

    private static void joinRefuses() {
        CountBook x = new CountBook();
        Check.say(x, 0, "abc");
        int[][] bad = {{-1, 4, 1, 0}, {6, 4, 1, 0}, {0, 0, 1, 0}, {0, 5, 1, 0}, {0, 7, 1, 0}, {0, 9, 1, 0},
            {0, -4, 1, 0}, {0, 40, 1, 0}, {0, 4, 0, 0}, {0, 4, 10, 0}, {0, 4, -1, 0}, {0, 4, 1, -1},
            {0, 4, 1, 97}, {1, 5, 1, 0}, {1, 4, 10, 0}, {1, 4, 1, 97}};
        for (int[] b : bad) {
            String of = "join(" + b[0] + ", " + b[1] + ", " + b[2] + ", " + b[3] + ")";
            CHECK.due(of, x.join(b[0], b[1], b[2], b[3]), CountBook.BAD);
        }
        CHECK.due("of an empty phrase", x.join(1, 4, 1, 0), CountBook.NO);
        CHECK.due("count(3)", x.count(3), 0);
        CHECK.due("the most", x.join(0, 8, 9, 96), 1);
        CHECK.due("the least", x.join(0, 1, 1, 0), 2);
    }

    private static void partsKeepTheirTicks() {
        CountBook x = new CountBook();
        x.limb(0, 0, 18);
        Check.say(x, 0, "abc");
        x.join(0, 4, 2, 5);
        Check.say(x, 0, "abcdefgh");
        CHECK.due("account as it was", x.account(0, 0), 41);
        x.join(0, 4, 1, 0);
        CHECK.due("account of the new", x.account(0, 1), 89);
    }

    private static void soloAgainstPlainSums() {
        CountBook x = new CountBook();
        String[] texts = {"a", "ab", "abc", "5(a-c)", "65a", "6(9ab)"};
        int[] sizes = {1, 2, 3, 15, 30, 60};
        for (int i = 0; i < 6; i++) {
            Check.say(x, i, texts[i]);
        }
        x.limb(0, 1, 1);
        x.limb(1, 1, 7);
        for (int i = 0; i < 12; i++) {
            x.limb(2, 3, 18);
        }
        int[] speeds = {1, 2, 3, 4, 6, 8};
        int[] lengths = {12, 84, 2592};
        int[] landed = new int[3];
        int end = 0;
        for (int i = 0; i < 20; i++) {
            int gap = i * 30 % 97;
            x.join(i * 5 % 6, speeds[i % 6], 1 + i % 9, gap);
            int begins = end;
            end += sizes[i * 5 % 6] * (24 / speeds[i % 6]) * (1 + i % 9) + gap;
            for (int c = 0; c < 3; c++) {
                landed[c] += end % lengths[c] == 0 ? 1 : 0;
                CHECK.due("account(" + c + ", " + i + ")", x.account(c, i), end % lengths[c]);
                CHECK.due("the one before", i == 0 ? 0 : x.account(c, i - 1), begins % lengths[c]);
                CHECK.due("landings(" + c + ")", x.landings(c), landed[c]);
                int home = x.home(c);
                CHECK.due("home(" + c + ")", (end - gap + home) % lengths[c], 0);
                CHECK.due("home(" + c + ") is least", home >= 0 && home < lengths[c] ? 1 : 0, 1);
            }
        }
        CHECK.due("some landed", landed[0] > 0 ? 1 : 0, 1);
    }

    private static void homeIsTheLeastGap() {
        CountBook x = new CountBook();
        x.limb(0, 1, 2);
        Check.say(x, 0, "a");
        x.join(0, 1, 1, 7);
        CHECK.due("home at the one already", x.home(0), 0);
        CHECK.due("landings with the gap", x.landings(0), 0);
        x.join(0, 2, 1, 0);
        CHECK.due("home behind a gap", x.home(0), 5);
        x.join(0, 1, 1, 5);
        CHECK.due("landings", x.landings(0), 1);
        CHECK.due("home, its own gap not told", x.home(0), 5);
        x.limb(1, 1, 18);
        CHECK.due("home may be above 96", x.home(1), 216 - 67);
    }

    private static void landingsTellTheGaps() {
        CountBook x = new CountBook();
        x.limb(0, 1, 2);
        Check.say(x, 0, "a");
        int[][] parts = {{8, 1, 21, 1}, {8, 1, 0, 1}, {8, 7, 0, 2}, {4, 1, 0, 2}, {4, 2, 54, 3}, {1, 9, 96, 4}};
        for (int[] part : parts) {
            x.join(0, part[0], part[1], part[2]);
            CHECK.due("landings after a part", x.landings(0), part[3]);
        }
    }

    private static void cyclesAreAsked() {
        CountBook x = new CountBook();
        x.limb(0, 1, 2);
        CHECK.due("account without parts", x.account(0, 0), CountBook.BAD);
        CHECK.due("account of an empty cycle without parts", x.account(1, 0), CountBook.BAD);
        CHECK.due("landings without parts", x.landings(0), 0);
        CHECK.due("home without parts", x.home(0), CountBook.NO);
        Check.say(x, 0, "a");
        x.join(0, 1, 1, 0);
        int[] bad = {-1, 4, Integer.MAX_VALUE, Integer.MIN_VALUE};
        for (int cycle : bad) {
            CHECK.due("account", x.account(cycle, 0), CountBook.BAD);
            CHECK.due("landings", x.landings(cycle), CountBook.BAD);
            CHECK.due("home", x.home(cycle), CountBook.BAD);
        }
        CHECK.due("account(0, -1)", x.account(0, -1), CountBook.BAD);
        CHECK.due("account(0, 1)", x.account(0, 1), CountBook.BAD);
        CHECK.due("account(1, 1)", x.account(1, 1), CountBook.BAD);
        CHECK.due("account(1, 0)", x.account(1, 0), CountBook.NO);
        CHECK.due("landings(1)", x.landings(1), CountBook.NO);
        CHECK.due("home(1)", x.home(1), CountBook.NO);
        x.drop();
        CHECK.due("account of a dropped part", x.account(0, 0), CountBook.BAD);
    }
}
