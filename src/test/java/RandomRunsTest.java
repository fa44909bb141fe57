import java.util.Random;

/**
 * Terms: a refused call changes nothing, a call that only asks changes nothing, and no call ever
 * throws, whatever it is told. Runs of random calls; what can be seen is written down around each.
 */
public final class RandomRunsTest {
    private static final Check CHECK = new Check();
    private static final String[] CALLS = {"limb", "clear", "feed", "trim", "phrase", "grid", "hand", "join", "drop",
        "sheet", "mark", "copy", "isOf", "length", "handling", "syllable", "ticks", "lands", "gaps", "gap", "start",
        "doubles", "least", "shape", "shaped", "ways", "cuts", "strains", "plays", "account", "landings", "home", "count"};
    private static final int[] WILD = {-1, 97, 61, 100, 128, 255, -128, Integer.MAX_VALUE, Integer.MIN_VALUE, 1 << 30, -1000000001};
    private static final String SIGNS = "abcdefgh--aabb2345()()1i)";

    public static void main(String[] args) {
        Random random = new Random(34);
        for (int run = 0; run < 300; run++) {
            run(random);
        }
        CHECK.end("RandomRunsTest");
    }

    private static void run(Random random) {
        CountBook x = new CountBook();
        String seen = seen(x);
        for (int i = 0; i < 512; i++) {
            String call = CALLS[random.nextInt(2) == 0 ? random.nextInt(12) : random.nextInt(CALLS.length)];
            int[] told = told(random, call);
            int answer = answer(x, call, told);
            String now = seen(x);
            boolean refused = answer <= CountBook.BAD && answer >= CountBook.SIZE;
            if (refused && !call.equals("phrase") || isAsking(call)) {
                CHECK.due(call + java.util.Arrays.toString(told) + " changed nothing", now.equals(seen) ? 1 : 0, 1);
            }
            seen = now;
        }
    }

    private static boolean isAsking(String call) {
        for (int i = 12; i < CALLS.length; i++) {
            if (CALLS[i].equals(call)) {
                return true;
            }
        }
        return false;
    }

    private static int[] told(Random random, String call) {
        int[] told = new int[5];
        int[] ends = {4, 6, 9, 12, 60};
        for (int i = 0; i < told.length; i++) {
            told[i] = random.nextInt(ends[random.nextInt(ends.length)]);
            if (random.nextInt(12) == 0) {
                told[i] = WILD[random.nextInt(WILD.length)];
            }
        }
        if (call.equals("feed")) {
            for (int i = 0; i < 12; i++) {
                told[i / 4] = told[i / 4] << 8 | SIGNS.charAt(random.nextInt(SIGNS.length()));
            }
        }
        boolean isClosing = "lands gaps gap start doubles least".contains(call);
        if (isClosing && random.nextInt(6) != 0) {
            told[2] = new int[] {10, 21, 30, 41, 60, 81}[random.nextInt(6)];
        }
        return told;
    }

    private static int answer(CountBook x, String call, int[] t) {
        switch (call) {
            case "limb": return x.limb(t[0], t[1], t[2]);
            case "isOf": return x.isOf(t[0], t[1], t[2]);
            case "clear": return x.clear(t[0]);
            case "length": return x.length(t[0]);
            case "handling": return x.handling(t[0], t[1]);
            case "feed": return x.feed(t[0], t[1], t[2]);
            case "trim": return x.trim(t[0]);
            case "phrase": return x.phrase(t[0]);
            case "syllable": return x.syllable(t[0], t[1]);
            case "ticks": return x.ticks(t[0], t[1]);
            case "lands": return x.lands(t[0], t[1], t[2], t[3], t[4]);
            case "gaps": return x.gaps(t[0], t[1], t[2], t[3]);
            case "gap": return x.gap(t[0], t[1], t[2], t[3], t[4]);
            case "start": return x.start(t[0], t[1], t[2], t[3]);
            case "doubles": return x.doubles(t[0], t[1], t[2], t[3]);
            case "least": return x.least(t[0], t[1], t[2], t[3]);
            case "grid": return x.grid(t[0]);
            case "shape": return x.shape(t[0], t[1], t[2]);
            case "shaped": return x.shaped(t[0], t[1], t[2], t[3]);
            case "ways": return x.ways(t[0], t[1]);
            case "cuts": return x.cuts(t[0], t[1]);
            case "hand": return x.hand(t[0], t[1]);
            case "strains": return x.strains(t[0]);
            case "plays": return x.plays(t[0], t[1]);
            case "join": return x.join(t[0], t[1], t[2], t[3]);
            case "drop": return x.drop();
            case "account": return x.account(t[0], t[1]);
            case "landings": return x.landings(t[0]);
            case "home": return x.home(t[0]);
            case "sheet": return x.sheet(t[0], t[1]);
            case "mark": return x.mark(t[0], t[1], t[2]);
            case "copy": return x.copy(t[0], t[1], t[2], t[3], t[4]);
            default: return x.count(t[0]);
        }
    }

    /** All that the calls let see of an object's state; what is asked by changing it is put back. */
    private static String seen(CountBook x) {
        StringBuilder seen = new StringBuilder();
        for (int what = 0; what < 6; what++) {
            seen.append(x.count(what)).append(' ');
        }
        for (int cycle = 0; cycle < 4; cycle++) {
            seen.append(x.length(cycle)).append(':');
            for (int i = 0; x.isOf(cycle, i, 0) == 1; i++) {
                seen.append(x.isOf(cycle, i, 1)).append(x.isOf(cycle, i, 2)).append(x.isOf(cycle, i, 3)).append(' ');
            }
            for (int i = 0; i < x.count(3); i++) {
                seen.append(x.account(cycle, i)).append(' ');
            }
            seen.append(x.home(cycle)).append('\n');
        }
        for (int phrase = 0; phrase < 6; phrase++) {
            for (int i = 0; x.syllable(phrase, i) >= 0; i++) {
                seen.append(x.syllable(phrase, i));
            }
            seen.append('\n');
        }
        for (int s = 0; s < 2; s++) {
            for (int place = 0; place < 61; place++) {
                int was = x.mark(s, place, 0);
                x.mark(s, place, was);
                seen.append(was).append(' ');
            }
        }
        int grid = x.grid(6);
        x.grid(grid);
        seen.append(grid);
        for (int syllable = 0; syllable < 8; syllable++) {
            int hand = x.hand(syllable, 3);
            x.hand(syllable, hand);
            seen.append(' ').append(hand);
        }
        return seen.toString();
    }
}
