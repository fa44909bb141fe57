import java.math.BigInteger;
import java.util.Random;

/** Promises 21 and 22: ways, cuts; against plain counting with numbers of any size. */
public final class TurnsTest {
    private static final Check CHECK = new Check();
    // One object goes through all runs: nothing of an earlier call may show in a later one.
    private static final CountBook USED = new CountBook();

    public static void main(String[] args) {
        Random random = new Random(22);
        for (int run = 0; run < 2000; run++) {
            int letters = 1 + random.nextInt(4);
            String theme = text(random, 1 + random.nextInt(60), letters);
            asks(theme, turnOf(random, theme, letters));
        }
        asks("a", "a");
        asks("a", "aaaaaaaaaaaaaaaaaaaaaaaaaaaaaa");
        asks("aa", "a".repeat(30));
        asks("aa", "a".repeat(23));
        asks("a".repeat(60), "a".repeat(60));
        asks("ab-", "-ab-");
        asks("ab", "a-b");
        edges();
        CHECK.end("TurnsTest");
    }

    private static String text(Random random, int length, int letters) {
        StringBuilder text = new StringBuilder();
        for (int i = 0; i < length; i++) {
            int letter = random.nextInt(letters + 1);
            text.append(letter == letters ? '-' : (char) ('a' + letter));
        }
        return text.toString();
    }

    private static String turnOf(Random random, String theme, int letters) {
        StringBuilder turn = new StringBuilder();
        int many = 1 + random.nextInt(12);
        for (int i = 0; i < many && turn.length() < 60; i++) {
            int from = random.nextInt(theme.length());
            turn.append(theme, from, from + 1 + random.nextInt(theme.length() - from));
        }
        turn.setLength(Math.min(60, turn.length()));
        if (random.nextInt(5) == 0) {
            turn.setCharAt(random.nextInt(turn.length()), (char) ('a' + random.nextInt(letters + 1)));
        }
        return turn.toString();
    }

    private static void asks(String theme, String turn) {
        asks(new CountBook(), theme, turn);
        asks(USED, theme, turn);
    }

    private static void asks(CountBook x, String theme, String turn) {
        Check.say(x, 1, theme);
        x.sheet(1, turn.length());
        for (int i = 0; i < turn.length(); i++) {
            x.mark(1, i, turn.charAt(i) == '-' ? 8 : turn.charAt(i) - 'a');
        }
        int end = turn.length();
        BigInteger[] ways = new BigInteger[end + 1];
        int[] fewest = new int[end + 1];
        ways[end] = BigInteger.ONE;
        for (int at = end - 1; at >= 0; at--) {
            ways[at] = BigInteger.ZERO;
            fewest[at] = 1000;
            for (int to = at + 1; to <= end; to++) {
                int places = places(theme, turn.substring(at, to));
                if (places == 0) {
                    break;
                }
                ways[at] = ways[at].add(ways[to].multiply(BigInteger.valueOf(places)));
                fewest[at] = Math.min(fewest[at], 1 + fewest[to]);
            }
        }
        String of = "(" + theme + ", " + turn + ")";
        CHECK.due("ways" + of, x.ways(1, 1), ways[0].min(BigInteger.valueOf(1000000000)).intValue());
        CHECK.due("cuts" + of, x.cuts(1, 1), fewest[0] >= 1000 ? CountBook.NONE : fewest[0]);
    }

    private static int places(String theme, String cut) {
        int places = 0;
        for (int i = 0; i + cut.length() <= theme.length(); i++) {
            if (theme.startsWith(cut, i)) {
                places++;
            }
        }
        return places;
    }

    private static void edges() {
        CountBook x = new CountBook();
        Check.say(x, 0, "abc");
        both(x, 0, 0, CountBook.NOTHING, CountBook.NOTHING);
        both(x, 5, 0, CountBook.NOTHING, CountBook.NOTHING);
        both(x, -1, 0, CountBook.BAD, CountBook.BAD);
        both(x, 6, 0, CountBook.BAD, CountBook.BAD);
        both(x, 0, -1, CountBook.BAD, CountBook.BAD);
        both(x, 0, 2, CountBook.BAD, CountBook.BAD);
        x.sheet(0, 0);
        both(x, 0, 0, 0, CountBook.NONE);
        both(x, 1, 0, 0, CountBook.NONE);
        x.sheet(0, 1);
        both(x, 0, 0, 1, 1);
        both(x, 1, 0, 0, CountBook.NONE);
        // What is no syllable is in no turn; 256 is 0 as a byte.
        int[] strange = {9, -1, 255, 97, 45};
        for (int v : strange) {
            x.mark(0, 0, v);
            both(x, 0, 0, 0, CountBook.NONE);
        }
        x.mark(0, 0, 256);
        both(x, 0, 0, 1, 1);
        // A shorter phrase leaves nothing of the longer one to be cut.
        Check.say(x, 0, "b");
        both(x, 0, 0, 0, CountBook.NONE);
        // Places that a shorter sheet no longer has are not asked for.
        x.sheet(0, 3);
        x.mark(0, 2, 7);
        x.sheet(0, 2);
        x.mark(0, 0, 1);
        x.mark(0, 1, 1);
        both(x, 0, 0, 1, 2);
    }

    private static void both(CountBook x, int phrase, int sheet, int ways, int cuts) {
        CHECK.due("ways(" + phrase + ", " + sheet + ")", x.ways(phrase, sheet), ways);
        CHECK.due("cuts(" + phrase + ", " + sheet + ")", x.cuts(phrase, sheet), cuts);
    }
}
