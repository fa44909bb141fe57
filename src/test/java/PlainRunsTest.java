import java.lang.reflect.InvocationTargetException;
import java.lang.reflect.Method;
import java.util.Arrays;
import java.util.Random;

/**
 * Promises 1 to 34 together: runs of 512 random calls, each answered by a CountBook and by the plain
 * book. What is told leans to the edges of what the document allows.
 */
public final class PlainRunsTest {
    private static final Check CHECK = new Check();
    private static final int MOST_CALLS = 512;
    private static final int CALLS_TO_SAY = 7;

    // For each call what it is told: a sign for the kind of each number, told in number().
    private static final String[] CALLS = {"limb ckh", "limb ckh", "isOf cik", "clear c", "length c", "handling ct", "handling ct",
        "feed www", "trim i", "trim i", "syllable pi", "ticks ps", "lands cpotg", "gaps cpot", "gap cpoti", "start cpog", "doubles cpot", "least cpot",
        "grid d", "shape pdk", "shaped pdki", "ways pe", "ways pe", "cuts pe", "cuts pe", "hand sk", "hand sk", "strains p",
        "plays pi", "plays pi", "join psdg", "join psdg", "drop ", "account ci", "account ci", "landings c", "home c", "sheet ei",
        "mark eis", "mark eis", "copy piein", "copy piein", "count s", "phrase p"};
    private static final int[] WILD = {-1, -2, 4, 6, 9, 10, 12, 20, 25, 59, 60, 61, 96, 97, 127, 128, 255, 256, 1000000007,
        Integer.MAX_VALUE, Integer.MAX_VALUE - 1, Integer.MIN_VALUE};
    private static final int[] SPEEDS = {1, 2, 3, 4, 6, 8};

    private final Random random;
    private final CountBook book = new CountBook();
    private final PlainBook plain = new PlainBook();
    private int calls = 0;

    private PlainRunsTest(int seed) {
        random = new Random(seed);
    }

    public static void main(String[] args) throws ReflectiveOperationException {
        int runs = args.length > 1 ? Integer.parseInt(args[1]) : 400;
        for (int seed = 0; seed < runs; seed++) {
            new PlainRunsTest(seed).run("run " + seed);
        }
        CHECK.end("PlainRunsTest");
    }

    private void run(String name) throws ReflectiveOperationException {
        while (calls + CALLS_TO_SAY <= MOST_CALLS) {
            if (random.nextInt(8) == 0) {
                say(name);
            } else {
                String[] call = CALLS[random.nextInt(CALLS.length)].split(" ", 2);
                // A cycle is cleared, and a solo dropped, seldom enough to become long.
                boolean empties = call[0].equals("clear") || call[0].equals("drop");
                if (!empties || random.nextInt(8) == 0) {
                    ask(name, call[0], numbers(call[1]));
                }
            }
        }
    }

    /** Writes a text that mostly is a phrase, and reads it. */
    private void say(String name) throws ReflectiveOperationException {
        StringBuilder text = new StringBuilder();
        writeRow(text, 0);
        if (random.nextInt(6) == 0) {
            text.insert(random.nextInt(text.length() + 1), "i1)(09(((((((".charAt(random.nextInt(13)));
        }
        text.setLength(Math.min(60, text.length()));
        for (int at = 0; at < text.length(); at += 12) {
            ask(name, "feed", Check.word(text.toString(), at), Check.word(text.toString(), at + 4), Check.word(text.toString(), at + 8));
        }
        ask(name, "trim", text.length());
        ask(name, "phrase", number('p'));
    }

    private void writeRow(StringBuilder text, int depth) {
        int items = 1 + random.nextInt(depth == 0 ? 12 : 4);
        for (int i = 0; i < items; i++) {
            while (random.nextInt(6) == 0) {
                text.append((char) ('2' + random.nextInt(3)));
            }
            if (random.nextInt(5) == 0 && depth < 7) {
                text.append('(');
                writeRow(text, depth + 1);
                text.append(')');
            } else {
                text.append("aaabbbcdh-".charAt(random.nextInt(10)));
            }
        }
    }

    private int[] numbers(String kinds) {
        int[] numbers = new int[kinds.length()];
        for (int i = 0; i < numbers.length; i++) {
            numbers[i] = random.nextInt(40) == 0 ? WILD[random.nextInt(WILD.length)] : number(kinds.charAt(i));
        }
        return numbers;
    }

    private int number(char kind) {
        switch (kind) {
            case 'c': return random.nextInt(4);
            case 'k': return random.nextInt(4);
            case 'h': return random.nextBoolean() ? 1 + random.nextInt(4) : 1 + random.nextInt(18);
            case 'i': return random.nextBoolean() ? random.nextInt(4) : random.nextInt(62);
            case 't': return random.nextInt(4) == 0 ? random.nextInt() >>> 1 : random.nextInt(600);
            case 'p': return random.nextInt(6);
            case 's': return random.nextInt(9);
            case 'o': return 10 * SPEEDS[random.nextInt(6)] + random.nextInt(2);
            case 'g': return random.nextInt(97);
            case 'd': return random.nextBoolean() ? 1 + random.nextInt(3) : 1 + random.nextInt(24);
            case 'e': return random.nextInt(2);
            case 'w': return Check.word(signs(), 0);
            default: return random.nextInt(12);
        }
    }

    private String signs() {
        StringBuilder signs = new StringBuilder();
        for (int i = 0; i < 4; i++) {
            signs.append("abcdefgh-2()".charAt(random.nextInt(12)));
        }
        return signs.toString();
    }

    private void ask(String name, String call, int... numbers) throws ReflectiveOperationException {
        calls++;
        int due = answer(plain, call, numbers);
        String told = name + ", call " + calls + ": " + call + Arrays.toString(numbers);
        try {
            CHECK.due(told, answer(book, call, numbers), due);
        } catch (InvocationTargetException thrown) {
            CHECK.due(told + " threw " + thrown.getCause() + ": how often", 1, 0);
        }
    }

    private static int answer(Object asked, String call, int[] numbers) throws ReflectiveOperationException {
        for (Method method : asked.getClass().getMethods()) {
            if (method.getName().equals(call)) {
                return (int) method.invoke(asked, Arrays.stream(numbers).boxed().toArray());
            }
        }
        throw new NoSuchMethodException(call);
    }
}
