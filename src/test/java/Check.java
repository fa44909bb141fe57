/** What the tests share: telling answers that are not due, and bringing a text to the tape. */
final class Check {
    private int asked = 0;
    private int wrong = 0;

    void due(String call, long got, long want) {
        asked++;
        if (got != want) {
            wrong++;
            System.out.println(call + " answered " + got + ", due is " + want);
        }
    }

    /** Ends the test: with exit code 1 if an answer was wrong, or if none was asked for. */
    void end(String test) {
        System.out.println(test + ": " + asked + " answers, " + wrong + " not as due");
        if (wrong != 0 || asked == 0) {
            System.exit(1);
        }
    }

    /** Brings a text of at most 60 bytes to an empty tape, with nothing behind it. */
    static void write(CountBook x, String text) {
        for (int at = 0; at < text.length() || at == 0; at += 12) {
            x.feed(word(text, at), word(text, at + 4), word(text, at + 8));
        }
        x.trim(text.length());
    }

    /** Writes a text and makes it a phrase. */
    static int say(CountBook x, int phrase, String text) {
        write(x, text);
        return x.phrase(phrase);
    }

    /** The number whose bytes are four signs of a text, 0 behind its end. */
    static int word(String text, int at) {
        int word = 0;
        for (int i = at; i < at + 4; i++) {
            word = word << 8 | (i < text.length() ? text.charAt(i) & 255 : 0);
        }
        return word;
    }
}
