import java.io.IOException;
import java.lang.reflect.Constructor;
import java.lang.reflect.Field;
import java.lang.reflect.Method;
import java.lang.reflect.Modifier;
import java.nio.file.Files;
import java.nio.file.Path;
import java.util.Set;
import java.util.TreeSet;
import java.util.regex.Matcher;
import java.util.regex.Pattern;

/** The public face as the document has it, and those rules of LANGUAGE.md that can be seen from outside. */
public final class FaceTest {
    private static final Check CHECK = new Check();
    private static final String[] FACE = {"account(2)", "clear(1)", "copy(5)", "count(1)", "cuts(2)", "doubles(4)",
        "drop(0)", "feed(3)", "gap(5)", "gaps(4)", "grid(1)", "hand(2)", "handling(2)", "home(1)", "isOf(3)", "join(4)",
        "landings(1)", "lands(5)", "least(4)", "length(1)", "limb(3)", "mark(3)", "phrase(1)", "plays(2)", "shape(3)",
        "shaped(4)", "sheet(2)", "start(4)", "strains(1)", "syllable(2)", "ticks(2)", "trim(1)", "ways(2)"};
    private static final String[] BANNED = {"\\bthrow\\b", "\\btry\\b", "\\bcatch\\b", "\\bsynchronized\\b", "\\bassert\\b",
        "->", "::", "\\bimport\\b", "\\bpackage\\b", "\\bObject\\b", "Exact\\b", "\\bSystem\\.(?!arraycopy)", "\\bstatic\\s*\\{"};

    public static void main(String[] args) throws IOException {
        constants();
        members();
        classesInside();
        source(Path.of(args.length > 0 ? args[0] : ".", "src/main/java/CountBook.java"));
        CHECK.end("FaceTest");
    }

    private static void constants() {
        CHECK.due("BAD", CountBook.BAD, -1000000001);
        CHECK.due("NO", CountBook.NO, -1000000002);
        CHECK.due("FULL", CountBook.FULL, -1000000003);
        CHECK.due("NONE", CountBook.NONE, -1000000005);
        CHECK.due("NOTHING", CountBook.NOTHING, -1000000011);
        CHECK.due("INDEX", CountBook.INDEX, -1000000013);
        CHECK.due("SIZE", CountBook.SIZE, -1000000014);
        int open = 0;
        for (Field field : CountBook.class.getDeclaredFields()) {
            open += Modifier.isPrivate(field.getModifiers()) ? 0 : 1;
            boolean isStaticState = Modifier.isStatic(field.getModifiers()) && !Modifier.isFinal(field.getModifiers());
            CHECK.due("static state " + field, isStaticState ? 1 : 0, 0);
        }
        CHECK.due("fields that are not private", open, 7);
    }

    private static void members() {
        Set<String> face = new TreeSet<>(Set.of(FACE));
        Set<String> open = new TreeSet<>();
        Set<String> openNames = new TreeSet<>();
        Set<String> hiddenNames = new TreeSet<>();
        for (Method method : CountBook.class.getDeclaredMethods()) {
            if (Modifier.isPrivate(method.getModifiers())) {
                hiddenNames.add(method.getName());
            } else {
                openNames.add(method.getName());
                open.add(method.getName() + "(" + method.getParameterCount() + ")");
                CHECK.due(method + " answers an int", method.getReturnType() == int.class ? 1 : 0, 1);
                CHECK.due(method + " is public", Modifier.isPublic(method.getModifiers()) ? 1 : 0, 1);
            }
            CHECK.due(method + " takes at most seven", method.getParameterCount() <= 7 ? 1 : 0, 1);
        }
        CHECK.due("the face " + open, open.equals(face) ? 1 : 0, 1);
        hiddenNames.retainAll(openNames);
        CHECK.due("private methods with a public name " + hiddenNames, hiddenNames.size(), 0);
        Constructor<?>[] makers = CountBook.class.getDeclaredConstructors();
        CHECK.due("constructors", makers.length, 1);
        CHECK.due("its parameters", makers[0].getParameterCount(), 0);
        CHECK.due("is final", Modifier.isFinal(CountBook.class.getModifiers()) ? 1 : 0, 1);
    }

    private static void classesInside() {
        Class<?>[] inside = CountBook.class.getDeclaredClasses();
        CHECK.due("not too many classes", inside.length <= 11 ? 1 : 0, 1);
        for (Class<?> c : inside) {
            CHECK.due(c + " is static", Modifier.isStatic(c.getModifiers()) ? 1 : 0, 1);
            CHECK.due(c + " is not public", Modifier.isPublic(c.getModifiers()) ? 1 : 0, 0);
        }
    }

    private static void source(Path path) throws IOException {
        String code = Files.readString(path).replaceAll("(?s)/\\*.*?\\*/", " ").replaceAll("//[^\n]*", " ");
        for (String banned : BANNED) {
            Matcher found = Pattern.compile(banned).matcher(code);
            CHECK.due("the source has " + banned, found.find() ? 1 : 0, 0);
        }
    }
}
