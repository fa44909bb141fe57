import java.util.Random;

/** Promises 23 to 25: hand, strains, plays; against all plays of a phrase. */
public final class HandsTest {
    private static final Check CHECK = new Check();

    public static void main(String[] args) {
        Random random = new Random(25);
        // One object goes through half the runs: nothing of an earlier call may show in a later one.
        CountBook used = new CountBook();
        for (int run = 0; run < 3000; run++) {
            allPlays(new CountBook(), random, 1 + random.nextInt(9));
            allPlays(used, random, 1 + random.nextInt(9));
        }
        longRows();
        handsAreTold();
        wrongOnesAreRefused();
        CHECK.end("HandsTest");
    }

    private static void allPlays(CountBook x, Random random, int length) {
        int[] hands = new int[9];
        for (int syllable = 0; syllable < 8; syllable++) {
            hands[syllable] = random.nextInt(4);
            x.hand(syllable, hands[syllable]);
        }
        int[] row = new int[length];
        StringBuilder text = new StringBuilder();
        for (int i = 0; i < length; i++) {
            row[i] = random.nextInt(9);
            text.append(row[i] == 8 ? '-' : (char) ('a' + row[i]));
        }
        Check.say(x, 2, text.toString());
        int[] best = null;
        int fewest = 1000;
        // Counted up with the first syllable as the highest bit, plays come in the document's order.
        for (int play = 0; play < 1 << length; play++) {
            int[] by = played(row, hands, play);
            int strains = strainsOf(by);
            if (strains < fewest) {
                fewest = strains;
                best = by;
            }
        }
        CHECK.due("strains(" + text + ")", x.strains(2), fewest);
        for (int i = 0; i < length; i++) {
            CHECK.due("plays(" + text + ", " + i + ")", x.plays(2, i), best[i] < 0 ? CountBook.NONE : best[i]);
        }
        CHECK.due("plays behind", x.plays(2, length), CountBook.BAD);
    }

    private static int[] played(int[] row, int[] hands, int play) {
        int[] by = new int[row.length];
        for (int i = 0; i < row.length; i++) {
            int hand = row[i] == 8 ? -1 : hands[row[i]];
            by[i] = hand == 3 ? play >> row.length - 1 - i & 1 : hand;
        }
        return by;
    }

    private static int strainsOf(int[] by) {
        int strains = 0;
        for (int i = 1; i < by.length; i++) {
            boolean rest = by[i] < 0 || by[i - 1] < 0;
            if (!rest && (by[i] == by[i - 1] || by[i] == 2 || by[i - 1] == 2)) {
                strains++;
            }
        }
        return strains;
    }

    private static void longRows() {
        CountBook x = new CountBook();
        Check.say(x, 0, "65(ab)");
        CHECK.due("strains of sixty", x.strains(0), 0);
        for (int i = 0; i < 60; i++) {
            CHECK.due("plays " + i, x.plays(0, i), i % 2);
        }
        x.hand(1, 1);
        x.hand(0, 1);
        CHECK.due("strains of one hand", x.strains(0), 59);
        // The last syllable's hand settles the first's.
        Check.say(x, 1, "5(9cc)9ce");
        x.hand(4, 0);
        CHECK.due("strains to the left", x.strains(1), 0);
        CHECK.due("the first", x.plays(1, 0), 1);
        CHECK.due("the last either", x.plays(1, 58), 1);
        CHECK.due("the last", x.plays(1, 59), 0);
    }

    private static void handsAreTold() {
        CountBook x = new CountBook();
        for (int syllable = 0; syllable < 8; syllable++) {
            for (int v = 0; v < 4; v++) {
                CHECK.due("hand(" + syllable + ", " + v + ")", x.hand(syllable, v), v == 0 ? 3 : v - 1);
            }
        }
        int[][] bad = {{-1, 0}, {8, 0}, {0, -1}, {0, 4}, {Integer.MAX_VALUE, 0}, {0, Integer.MIN_VALUE}};
        for (int[] b : bad) {
            CHECK.due("hand(" + b[0] + ", " + b[1] + ")", x.hand(b[0], b[1]), CountBook.BAD);
        }
        CHECK.due("it stays", x.hand(0, 3), 3);
    }

    private static void wrongOnesAreRefused() {
        CountBook x = new CountBook();
        Check.say(x, 0, "-");
        int[] phrases = {-1, 6, Integer.MAX_VALUE};
        for (int phrase : phrases) {
            CHECK.due("strains", x.strains(phrase), CountBook.BAD);
            CHECK.due("plays", x.plays(phrase, 0), CountBook.BAD);
        }
        CHECK.due("strains of a rest", x.strains(0), 0);
        CHECK.due("plays of a rest", x.plays(0, 0), CountBook.NONE);
        CHECK.due("plays(0, 1)", x.plays(0, 1), CountBook.BAD);
        CHECK.due("plays(0, MAX)", x.plays(0, Integer.MAX_VALUE), CountBook.BAD);
        CHECK.due("plays(0, -1)", x.plays(0, -1), CountBook.BAD);
        CHECK.due("strains of none", x.strains(1), CountBook.NO);
        CHECK.due("plays of none", x.plays(1, 0), CountBook.NO);
        CHECK.due("plays of none, far", x.plays(1, 60), CountBook.NO);
        CHECK.due("plays of none, below 0", x.plays(1, -1), CountBook.BAD);
    }
}
