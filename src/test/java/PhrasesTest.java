/** Promises 7 to 11: feed, trim, phrase, syllable, ticks. */
public final class PhrasesTest {
    private static final Check CHECK = new Check();

    public static void main(String[] args) {
        bytesComeHighestFirst();
        theTapeIsFullAtSixty();
        theTapeIsTrimmed();
        phrasesAreSpoken();
        faultsAreTold();
        manyAreTooMany();
        readingUsesTheTapeUp();
        aRefusedPhraseStays();
        syllablesAndTicks();
        CHECK.end("PhrasesTest");
    }

    private static void bytesComeHighestFirst() {
        CountBook x = new CountBook();
        CHECK.due("feed", x.feed(0x61626364, 0x65666768, 0x2d616263), 12);
        CHECK.due("phrase", x.phrase(5), 12);
        int[] row = {0, 1, 2, 3, 4, 5, 6, 7, 8, 0, 1, 2};
        for (int i = 0; i < row.length; i++) {
            CHECK.due("syllable " + i, x.syllable(5, i), row[i]);
        }
    }

    private static void theTapeIsFullAtSixty() {
        CountBook x = new CountBook();
        for (int n = 12; n <= 60; n += 12) {
            CHECK.due("feed to " + n, x.feed(0x61616161, 0x61616161, 0x61616161), n);
        }
        CHECK.due("feed beyond", x.feed(0, 0, 0), CountBook.FULL);
        CHECK.due("count(4)", x.count(4), 60);
        CHECK.due("trim(49)", x.trim(49), 49);
        CHECK.due("feed to 61", x.feed(0, 0, 0), CountBook.FULL);
        CHECK.due("trim(48)", x.trim(48), 48);
        CHECK.due("feed to 60", x.feed(0x62626262, 0x62626262, 0x62626262), 60);
        CHECK.due("phrase", x.phrase(0), 60);
        CHECK.due("syllable 47", x.syllable(0, 47), 0);
        CHECK.due("syllable 48", x.syllable(0, 48), 1);
        CHECK.due("syllable 59", x.syllable(0, 59), 1);
    }

    private static void theTapeIsTrimmed() {
        CountBook x = new CountBook();
        x.feed(0x61626364, 0, 0);
        CHECK.due("trim(13)", x.trim(13), CountBook.BAD);
        CHECK.due("trim(-1)", x.trim(-1), CountBook.BAD);
        CHECK.due("trim(MIN)", x.trim(Integer.MIN_VALUE), CountBook.BAD);
        CHECK.due("trim(12)", x.trim(12), 12);
        CHECK.due("trim(4)", x.trim(4), 4);
        CHECK.due("trim(5)", x.trim(5), CountBook.BAD);
        CHECK.due("count(4)", x.count(4), 4);
        CHECK.due("trim(2)", x.trim(2), 2);
        CHECK.due("feed behind", x.feed(0x65666768, 0x61616161, 0x61616161), 14);
        CHECK.due("phrase", x.phrase(0), 14);
        CHECK.due("syllable 1", x.syllable(0, 1), 1);
        CHECK.due("syllable 2", x.syllable(0, 2), 4);
    }

    private static void phrasesAreSpoken() {
        spoken("a", "a");
        spoken("-", "-");
        spoken("abcdefgh-", "abcdefgh-");
        spoken("2a", "aa");
        spoken("9-", "---------");
        spoken("23a", "aaaaaa");
        spoken("a2bc", "abbc");
        spoken("(a)", "a");
        spoken("(ab)c", "abc");
        spoken("2(ab)c", "ababc");
        spoken("23(ab)", "abababababab");
        spoken("a2(b3(cd)e)f", "abcdcdcdebcdcdcdef");
        spoken("2(2(2(2(2(2a)))))", "a".repeat(64).substring(0, 0));
        spoken("((((((a))))))", "a");
        spoken("2((a)(b))2(-)", "abab--");
        spoken("(a)(b)(c)(d)(e)(f)(g)(h)", "abcdefgh");
        spoken("6(9ab)", "aaaaaaaaab".repeat(6));
        spoken("a".repeat(60), "a".repeat(60));
        spoken("2222(abc)4(abc)", "abc".repeat(16) + "abc".repeat(4));
    }

    /** A row that is spoken, or (told empty) too many. */
    private static void spoken(String text, String row) {
        CountBook x = new CountBook();
        CHECK.due(text, Check.say(x, 3, text), row.isEmpty() ? CountBook.FULL : row.length());
        for (int i = 0; i < row.length(); i++) {
            int want = row.charAt(i) == '-' ? 8 : row.charAt(i) - 'a';
            CHECK.due(text + ", syllable " + i, x.syllable(3, i), want);
        }
        CHECK.due(text + ", behind", x.syllable(3, row.length()), CountBook.NONE);
    }

    private static void faultsAreTold() {
        fault("", 0);
        fault("a(", 2);
        fault("a()", 2);
        fault("()", 1);
        fault("(", 1);
        fault(")", 0);
        fault("a)", 1);
        fault("(a))", 3);
        fault("(a", 2);
        fault("2", 1);
        fault("a2", 2);
        fault("22", 2);
        fault("2)", 1);
        fault("(2)", 2);
        fault("1a", 0);
        fault("0a", 0);
        fault("a1", 1);
        fault("i", 0);
        fault("`", 0);
        fault("A", 0);
        fault("a b", 1);
        fault(" a", 0);
        fault("ab\u0000", 2);
        fault("ab\u00e1", 2);
        fault("a\u00ff", 1);
        fault("a,b", 1);
        fault("a*", 1);
        fault("a:", 1);
        fault("(((((((a)))))))", 6);
        fault("a(((((((", 7);
        fault("((((((a))))))(((((((", 19);
        fault("((((((a)))))))", 13);
        fault("2(2(2(2(2(2(", 12);
        fault("(2(2(2(2(2(2(2(", 12);
        fault("9".repeat(60), 60);
        fault("a".repeat(59) + "(", 60);
        // A fault behind too many syllables is told, not FULL.
        fault("99a)", 3);
        fault("9(9a)i", 5);
        fault("9".repeat(30) + "a2", 32);
    }

    private static void fault(String text, int place) {
        CountBook x = new CountBook();
        CHECK.due("'" + text + "'", Check.say(x, 0, text), -100 - place);
        CHECK.due("'" + text + "', count(1)", x.count(1), 0);
        CHECK.due("'" + text + "', count(4)", x.count(4), 0);
    }

    private static void manyAreTooMany() {
        String[] texts = {"9(9a)", "99a", "6(9ab)c", "a6(9ab)", "7(9a)", "2(6(5a))a", "9".repeat(59) + "a",
            "9".repeat(52) + "(9(9a))", "2(" + "a".repeat(31) + ")", "(((((9" + "9".repeat(40) + "a)))))", "78a9a"};
        for (String text : texts) {
            CountBook x = new CountBook();
            CHECK.due(text, Check.say(x, 0, text), CountBook.FULL);
            CHECK.due(text + ", count(2)", x.count(2), 0);
            CHECK.due(text + ", count(4)", x.count(4), 0);
        }
        CountBook x = new CountBook();
        CHECK.due("just sixty", Check.say(x, 0, "2(" + "a".repeat(30) + ")"), 60);
        CHECK.due("just sixty by digits", Check.say(x, 0, "2(65a)"), 60);
        CHECK.due("one more", Check.say(x, 0, "2(65a)a"), CountBook.FULL);
    }

    private static void readingUsesTheTapeUp() {
        CountBook x = new CountBook();
        String[] texts = {"abc", "a(", "99a"};
        for (String text : texts) {
            Check.say(x, 0, text);
            CHECK.due("count(4) after " + text, x.count(4), 0);
            CHECK.due("an empty tape", x.phrase(0), -100);
        }
        int[] noPhrases = {-1, 6, Integer.MIN_VALUE, Integer.MAX_VALUE};
        for (int phrase : noPhrases) {
            Check.write(x, "abcd");
            CHECK.due("phrase(" + phrase + ")", x.phrase(phrase), CountBook.BAD);
            CHECK.due("count(4) after phrase(" + phrase + ")", x.count(4), 0);
            CHECK.due("feed after it", x.feed(0, 0, 0), 12);
            CHECK.due("BAD ahead of a fault", x.phrase(phrase), CountBook.BAD);
            CHECK.due("trim(1) of what is used up", x.trim(1), CountBook.BAD);
        }
        CHECK.due("BAD on an empty tape", x.phrase(6), CountBook.BAD);
        Check.write(x, "99a");
        CHECK.due("BAD ahead of FULL", x.phrase(6), CountBook.BAD);
        CHECK.due("count(2): no phrase changed", x.count(2), 3);
    }

    private static void aRefusedPhraseStays() {
        CountBook x = new CountBook();
        Check.say(x, 2, "abc");
        Check.say(x, 2, "hh)");
        Check.say(x, 2, "h99h");
        CHECK.due("syllable(2, 0)", x.syllable(2, 0), 0);
        CHECK.due("syllable(2, 2)", x.syllable(2, 2), 2);
        CHECK.due("syllable(2, 3)", x.syllable(2, 3), CountBook.NONE);
        CHECK.due("a shorter one", Check.say(x, 2, "h"), 1);
        CHECK.due("its syllable", x.syllable(2, 0), 7);
        CHECK.due("no more of the old", x.syllable(2, 1), CountBook.NONE);
        CHECK.due("count(2)", x.count(2), 1);
    }

    private static void syllablesAndTicks() {
        CountBook x = new CountBook();
        Check.say(x, 0, "ab-c5d");
        CHECK.due("syllable(-1, 0)", x.syllable(-1, 0), CountBook.BAD);
        CHECK.due("syllable(6, 0)", x.syllable(6, 0), CountBook.BAD);
        CHECK.due("syllable(0, -1)", x.syllable(0, -1), CountBook.BAD);
        CHECK.due("syllable(1, -1)", x.syllable(1, -1), CountBook.BAD);
        CHECK.due("syllable(0, 2)", x.syllable(0, 2), 8);
        CHECK.due("syllable(0, 9)", x.syllable(0, 9), CountBook.NONE);
        CHECK.due("syllable(0, MAX)", x.syllable(0, Integer.MAX_VALUE), CountBook.NONE);
        int[] ticks = {-1, 24, 12, 8, 6, -1, 4, -1, 3, -1};
        for (int speed = 0; speed < ticks.length; speed++) {
            int want = ticks[speed] < 0 ? CountBook.BAD : 9 * ticks[speed];
            CHECK.due("ticks(0, " + speed + ")", x.ticks(0, speed), want);
        }
        CHECK.due("ticks(0, -1)", x.ticks(0, -1), CountBook.BAD);
        CHECK.due("ticks(0, 12)", x.ticks(0, 12), CountBook.BAD);
        CHECK.due("ticks(0, 24)", x.ticks(0, 24), CountBook.BAD);
        CHECK.due("ticks(-1, 1)", x.ticks(-1, 1), CountBook.BAD);
        CHECK.due("ticks(6, 1)", x.ticks(6, 1), CountBook.BAD);
        CHECK.due("ticks of none", x.ticks(1, 1), 0);
    }
}
