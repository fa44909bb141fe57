/** Promises 19 and 20: shape, shaped; against rows that are written out. */
public final class ShapesTest {
    private static final Check CHECK = new Check();

    public static void main(String[] args) {
        String[] texts = {"a", "ab", "abcde", "abcdefgh-", "ab-ab-ab-ab-ab-ab-ab", "a".repeat(59) + "b"};
        for (String text : texts) {
            for (int d = 1; d <= 9; d++) {
                asks(text, d);
            }
        }
        wrongOnesAreRefused();
        CHECK.end("ShapesTest");
    }

    private static void asks(String text, int d) {
        CountBook x = new CountBook();
        Check.say(x, 4, text);
        String shrinking = "";
        String growing = "";
        String growingOn = "";
        for (int from = 0; from < text.length(); from += d) {
            String row = text.substring(from);
            shrinking = shrinking + row;
            growingOn = from + d >= text.length() ? growing : growingOn;
            growing = row + growing;
        }
        growingOn = growing.substring(growing.length() - growingOn.length());
        String[] shapes = {shrinking, growing, shrinking + growingOn};
        for (int what = 0; what < 3; what++) {
            String of = "(" + text + ", " + d + ", " + what + ")";
            CHECK.due("shape" + of, x.shape(4, d, what), shapes[what].length());
            for (int i = 0; i < shapes[what].length(); i++) {
                char sign = shapes[what].charAt(i);
                CHECK.due("shaped" + of + " " + i, x.shaped(4, d, what, i), sign == '-' ? 8 : sign - 'a');
            }
            CHECK.due("shaped behind" + of, x.shaped(4, d, what, shapes[what].length()), CountBook.NONE);
        }
    }

    private static void wrongOnesAreRefused() {
        CountBook x = new CountBook();
        Check.say(x, 0, "abc");
        int[][] bad = {{-1, 1, 0}, {6, 1, 0}, {0, 0, 0}, {0, -1, 0}, {0, 10, 0}, {0, 1, -1}, {0, 1, 3},
            {1, 0, 0}, {1, 1, 3}, {0, Integer.MIN_VALUE, 0}, {0, Integer.MAX_VALUE, 0}};
        for (int[] b : bad) {
            String of = "(" + b[0] + ", " + b[1] + ", " + b[2] + ")";
            CHECK.due("shape" + of, x.shape(b[0], b[1], b[2]), CountBook.BAD);
            CHECK.due("shaped" + of, x.shaped(b[0], b[1], b[2], 0), CountBook.BAD);
        }
        CHECK.due("shape of none", x.shape(1, 1, 0), CountBook.NO);
        CHECK.due("shaped of none", x.shaped(1, 1, 0, 0), CountBook.NO);
        CHECK.due("shaped -1 of none", x.shaped(1, 1, 0, -1), CountBook.BAD);
        CHECK.due("shaped -1", x.shaped(0, 1, 0, -1), CountBook.BAD);
        CHECK.due("shaped MIN", x.shaped(0, 1, 0, Integer.MIN_VALUE), CountBook.BAD);
        CHECK.due("shaped MAX", x.shaped(0, 1, 2, Integer.MAX_VALUE), CountBook.NONE);
    }
}
