/** Promise 1: in a new object nothing is told, and objects know nothing of one another. */
public final class NewObjectTest {
    public static void main(String[] args) {
        Check check = new Check();
        asksNew(check, new CountBook());
        CountBook used = new CountBook();
        use(used);
        asksNew(check, new CountBook());
        check.due("count(0) of the used one", used.count(0), 1);
        check.end("NewObjectTest");
    }

    private static void use(CountBook x) {
        x.limb(0, 3, 4);
        Check.say(x, 0, "abc");
        x.join(0, 4, 1, 0);
        x.sheet(0, 5);
        x.grid(1);
        x.hand(0, 1);
        x.feed(1, 2, 3);
    }

    private static void asksNew(Check check, CountBook x) {
        for (int what = 0; what <= 5; what++) {
            check.due("count(" + what + ")", x.count(what), 0);
        }
        for (int cycle = 0; cycle < 4; cycle++) {
            check.due("length", x.length(cycle), 0);
            check.due("clear", x.clear(cycle), 0);
        }
        for (int phrase = 0; phrase < 6; phrase++) {
            check.due("syllable", x.syllable(phrase, 0), CountBook.NONE);
            check.due("ticks", x.ticks(phrase, 1), 0);
        }
        for (int s = 0; s < 2; s++) {
            check.due("mark", x.mark(s, 0, 0), CountBook.NOTHING);
        }
        for (int syllable = 0; syllable < 8; syllable++) {
            check.due("hand", x.hand(syllable, 3), 3);
        }
        check.due("grid", x.grid(6), 6);
        check.due("drop", x.drop(), 0);
        check.due("trim(1)", x.trim(1), CountBook.BAD);
        check.due("trim(0)", x.trim(0), 0);
    }
}
