/** Promises 31 to 34: sheet, mark, copy, count. */
public final class SheetsTest {
    private static final Check CHECK = new Check();

    public static void main(String[] args) {
        sheetsAreLaidOut();
        placesAreMarked();
        syllablesAreCopied();
        copyRefuses();
        thingsAreCounted();
        CHECK.end("SheetsTest");
    }

    private static void sheetsAreLaidOut() {
        CountBook x = new CountBook();
        int[] bad = {-1, 2, Integer.MAX_VALUE, Integer.MIN_VALUE};
        for (int s : bad) {
            CHECK.due("sheet(" + s + ", 1)", x.sheet(s, 1), CountBook.BAD);
            CHECK.due("sheet(" + s + ", -1)", x.sheet(s, -1), CountBook.BAD);
        }
        CHECK.due("sheet(0, 61)", x.sheet(0, 61), CountBook.BAD);
        CHECK.due("sheet(0, MAX)", x.sheet(0, Integer.MAX_VALUE), CountBook.BAD);
        CHECK.due("sheet(0, -1)", x.sheet(0, -1), CountBook.SIZE);
        CHECK.due("sheet(0, MIN)", x.sheet(0, Integer.MIN_VALUE), CountBook.SIZE);
        CHECK.due("still missing", x.mark(0, 0, 1), CountBook.NOTHING);
        CHECK.due("sheet(1, 60)", x.sheet(1, 60), 60);
        CHECK.due("sheet(0, 0)", x.sheet(0, 0), 0);
        CHECK.due("mark of no place", x.mark(0, 0, 1), CountBook.INDEX);
        for (int i = 0; i < 60; i++) {
            CHECK.due("mark " + i, x.mark(1, i, i + 1), 0);
        }
        CHECK.due("a refused sheet", x.sheet(1, -1), CountBook.SIZE);
        CHECK.due("stays", x.mark(1, 59, 60), 60);
        CHECK.due("sheet anew", x.sheet(1, 30), 30);
        CHECK.due("place 30", x.mark(1, 30, 1), CountBook.INDEX);
        CHECK.due("sheet wider", x.sheet(1, 60), 60);
        for (int i = 0; i < 60; i++) {
            CHECK.due("all 0, " + i, x.mark(1, i, 0), 0);
        }
    }

    private static void placesAreMarked() {
        CountBook x = new CountBook();
        x.sheet(0, 2);
        x.sheet(1, 1);
        int[] marks = {5, 127, 128, 255, 256, -1, -128, -129, 0x12345678, 0};
        int was = 0;
        for (int v : marks) {
            CHECK.due("mark(0, 1, " + v + ")", x.mark(0, 1, v), was);
            was = (byte) v;
        }
        CHECK.due("its neighbour", x.mark(0, 0, 0), 0);
        CHECK.due("the other sheet", x.mark(1, 0, 0), 0);
        int[] places = {-1, 2, 60, Integer.MAX_VALUE, Integer.MIN_VALUE};
        for (int place : places) {
            CHECK.due("mark(0, " + place + ", 1)", x.mark(0, place, 1), CountBook.INDEX);
        }
        CHECK.due("mark(-1, 0, 1)", x.mark(-1, 0, 1), CountBook.BAD);
        CHECK.due("mark(2, 0, 1)", x.mark(2, 0, 1), CountBook.BAD);
        CHECK.due("mark(2, 9, 1)", x.mark(2, 9, 1), CountBook.BAD);
        CHECK.due("NOTHING ahead of INDEX", new CountBook().mark(0, -1, 0), CountBook.NOTHING);
    }

    private static void syllablesAreCopied() {
        CountBook x = new CountBook();
        Check.say(x, 3, "abcdefgh-");
        x.sheet(1, 12);
        for (int i = 0; i < 12; i++) {
            x.mark(1, i, 99);
        }
        CHECK.due("copy", x.copy(3, 4, 1, 5, 5), 5);
        int[] row = {99, 99, 99, 99, 99, 4, 5, 6, 7, 8, 99, 99};
        for (int i = 0; i < 12; i++) {
            CHECK.due("place " + i, x.mark(1, i, 0), row[i]);
        }
        CHECK.due("the phrase stays", x.syllable(3, 4), 4);
        CHECK.due("all of it", x.copy(3, 0, 1, 3, 9), 9);
        CHECK.due("its last", x.mark(1, 11, 0), 8);
        CHECK.due("none of it", x.copy(3, 0, 1, 0, 0), 0);
        CHECK.due("none at the ends", x.copy(3, 9, 1, 12, 0), 0);
        CHECK.due("none of none", x.copy(0, 0, 1, 0, 0), 0);
    }

    private static void copyRefuses() {
        CountBook x = new CountBook();
        Check.say(x, 0, "abcd");
        x.sheet(0, 6);
        int max = Integer.MAX_VALUE;
        int min = Integer.MIN_VALUE;
        int[][] index = {{0, -1, 0, 0, 1}, {0, 0, 0, -1, 1}, {0, 0, 0, 0, -1}, {0, 0, 0, 0, 5}, {0, 1, 0, 0, 4},
            {0, 4, 0, 0, 1}, {0, 5, 0, 0, 0}, {0, 0, 0, 3, 4}, {0, 0, 0, 6, 1}, {0, 0, 0, 7, 0}, {1, 0, 0, 0, 1},
            {0, max, 0, 0, 1}, {0, 1, 0, 0, max}, {0, 0, 0, max, 1}, {0, max, 0, 0, max}, {0, min, 0, 0, max},
            {0, 0, 0, min, 1}, {0, 0, 0, 0, min}, {0, 4, 0, 0, min}, {0, -1, 0, 0, 0}, {0, 0, 0, -1, 0}};
        for (int[] b : index) {
            due(x, b, CountBook.INDEX);
        }
        int[][] bad = {{-1, 0, 0, 0, 1}, {6, 0, 0, 0, 1}, {0, 0, -1, 0, 1}, {0, 0, 2, 0, 1}, {6, 0, 1, 0, 1}, {6, 0, 0, 0, 9}};
        for (int[] b : bad) {
            due(x, b, CountBook.BAD);
        }
        due(x, new int[] {0, 0, 1, 0, 1}, CountBook.NOTHING);
        due(x, new int[] {0, 0, 1, 9, -1}, CountBook.NOTHING);
        for (int i = 0; i < 6; i++) {
            CHECK.due("nothing came to place " + i, x.mark(0, i, 0), 0);
        }
    }

    private static void due(CountBook x, int[] b, int want) {
        String of = "copy(" + b[0] + ", " + b[1] + ", " + b[2] + ", " + b[3] + ", " + b[4] + ")";
        CHECK.due(of, x.copy(b[0], b[1], b[2], b[3], b[4]), want);
    }

    private static void thingsAreCounted() {
        CountBook x = new CountBook();
        x.limb(0, 0, 1);
        x.limb(3, 0, 1);
        x.limb(3, 0, 1);
        Check.say(x, 0, "ab-");
        Check.say(x, 5, "9a");
        x.join(0, 1, 1, 0);
        x.join(0, 1, 1, 0);
        x.sheet(1, 0);
        x.feed(0, 0, 0);
        x.trim(7);
        int[] due = {3, 2, 12, 2, 7, 1};
        for (int what = 0; what < due.length; what++) {
            CHECK.due("count(" + what + ")", x.count(what), due[what]);
        }
        x.trim(0);
        Check.say(x, 3, "-");
        CHECK.due("count(1) with one rest", x.count(1), 3);
        x.sheet(0, 60);
        x.clear(3);
        CHECK.due("count(5) again", x.count(5), 2);
        CHECK.due("count(0) again", x.count(0), 1);
        int[] bad = {-1, 6, Integer.MAX_VALUE, Integer.MIN_VALUE};
        for (int what : bad) {
            CHECK.due("count(" + what + ")", x.count(what), CountBook.BAD);
        }
    }
}
