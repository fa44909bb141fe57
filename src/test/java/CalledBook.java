import java.lang.reflect.InvocationTargetException;
import java.lang.reflect.Method;
import java.util.Map;
import java.util.TreeMap;
import java.util.regex.Matcher;
import java.util.regex.Pattern;

/** A new CountBook that is called by lines of text, each with the answer that is due. */
final class CalledBook {
    private static final Pattern CALL = Pattern.compile("(?:(\\d+) times )?(\\w+)\\(([^)]*)\\)(?: = (\\S+))?");
    private static final Pattern SAY = Pattern.compile("say (\\S+) \"([^\"]*)\" = (\\S+)");
    private static final Pattern TAPE = Pattern.compile("tape \"([^\"]*)\"");
    private static final Pattern ROW = Pattern.compile("row (\\S+) = \"([^\"]*)\"");
    private static final Pattern PLACES = Pattern.compile("places (\\S+) = ?(.*)");
    private static final Pattern BYTE = Pattern.compile("\\\\x([0-9a-f]{2})");
    private static final Map<String, Method> METHODS = methods();

    private final CountBook book = new CountBook();
    private final Check check;
    private final String title;
    private int asked = 0;
    private int calls = 0;

    CalledBook(Check check, String title) {
        this.check = check;
        this.title = title;
    }

    int asked() {
        return asked;
    }

    int calls() {
        return calls;
    }

    void step(String line) {
        Matcher call = CALL.matcher(line);
        Matcher say = SAY.matcher(line);
        Matcher tape = TAPE.matcher(line);
        Matcher row = ROW.matcher(line);
        Matcher places = PLACES.matcher(line);
        if (call.matches()) {
            int times = call.group(1) == null ? 1 : Integer.parseInt(call.group(1));
            for (int i = 0; i < times; i++) {
                callAll(call.group(2), call.group(3).strip(), call.group(4));
            }
        } else if (say.matches()) {
            write(say.group(2));
            due(line, call("phrase", say.group(1)), number(say.group(3)));
        } else if (tape.matches()) {
            write(tape.group(1));
        } else if (row.matches()) {
            rowIs(row.group(1), row.group(2));
        } else if (places.matches()) {
            placesAre(places.group(1), places.group(2).strip());
        } else {
            due("a line that can be read, not '" + line + "'", 0, 1);
        }
    }

    /** Calls for each number of a range a..b, if there is one among what is told. */
    private void callAll(String name, String told, String want) {
        Matcher range = Pattern.compile("(-?\\d+)\\.\\.(-?\\d+)").matcher(told);
        if (range.find()) {
            int from = Integer.parseInt(range.group(1));
            int to = Integer.parseInt(range.group(2));
            for (int i = from; i <= to; i++) {
                callAll(name, told.substring(0, range.start()) + i + told.substring(range.end()), want);
            }
            return;
        }
        long got = call(name, told);
        if (want != null) {
            due(name + "(" + told + ")", got, number(want));
        }
    }

    private long call(String name, String told) {
        String[] texts = told.isEmpty() ? new String[0] : told.split(" *, *");
        Object[] numbers = new Object[texts.length];
        for (int i = 0; i < texts.length; i++) {
            numbers[i] = (int) number(texts[i]);
        }
        Method method = METHODS.get(name + "/" + texts.length);
        if (method == null) {
            due("a call that there is, not " + name + "(" + told + ")", 0, 1);
            return Long.MIN_VALUE;
        }
        calls++;
        try {
            return (int) method.invoke(book, numbers);
        } catch (InvocationTargetException | IllegalAccessException e) {
            due(name + "(" + told + ") threw " + e.getCause() + ": how often", 1, 0);
            return Long.MIN_VALUE;
        }
    }

    /** Brings a text to an empty tape; \xNN in it is the byte of that number. */
    private void write(String written) {
        Matcher found = BYTE.matcher(written);
        StringBuilder text = new StringBuilder();
        int at = 0;
        while (found.find()) {
            text.append(written, at, found.start()).append((char) Integer.parseInt(found.group(1), 16));
            at = found.end();
        }
        text.append(written.substring(at));
        Check.write(book, text.toString());
        calls += Math.max(1, (text.length() + 11) / 12) + 1;
        due("the tape has what is written", call("count", "4"), text.length());
    }

    private void rowIs(String phrase, String row) {
        for (int i = 0; i < row.length(); i++) {
            int want = row.charAt(i) == '-' ? 8 : row.charAt(i) - 'a';
            due("syllable(" + phrase + ", " + i + ")", call("syllable", phrase + "," + i), want);
        }
        due("the row's end", call("syllable", phrase + "," + row.length()), CountBook.NONE);
    }

    /** Asks for each place by marking it, and puts back what was there. */
    private void placesAre(String sheet, String row) {
        String[] wants = row.isEmpty() ? new String[0] : row.split(" +");
        for (int i = 0; i < wants.length; i++) {
            long was = call("mark", sheet + "," + i + ",0");
            due("place " + i + " of sheet " + sheet, was, number(wants[i]));
            call("mark", sheet + "," + i + "," + (int) was);
        }
        due("the places' end", call("mark", sheet + "," + wants.length + ",0"), CountBook.INDEX);
    }

    private void due(String what, long got, long want) {
        asked++;
        check.due(title + ": " + what, got, want);
    }

    private static long number(String text) {
        switch (text) {
            case "MAX": return Integer.MAX_VALUE;
            case "MIN": return Integer.MIN_VALUE;
            // The document's own numbers, so that a wrong constant does not go along with the tests.
            case "BAD": return -1000000001;
            case "NO": return -1000000002;
            case "FULL": return -1000000003;
            case "NONE": return -1000000005;
            case "NOTHING": return -1000000011;
            case "INDEX": return -1000000013;
            case "SIZE": return -1000000014;
            default: return Long.decode(text);
        }
    }

    private static Map<String, Method> methods() {
        Map<String, Method> methods = new TreeMap<>();
        for (Method method : CountBook.class.getMethods()) {
            methods.put(method.getName() + "/" + method.getParameterCount(), method);
        }
        return methods;
    }
}
