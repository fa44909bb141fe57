import java.io.DataInputStream;
import java.io.IOException;
import java.io.InputStream;
import java.util.Set;
import java.util.TreeSet;

/** What the compiled class and the classes inside it call outside themselves: only what LANGUAGE.md lists. */
public final class LibraryTest {
    private static final Set<String> LISTED = Set.of("java/lang/Object.<init>", "java/lang/Math.max",
        "java/lang/Math.min", "java/lang/Math.floorMod", "java/lang/System.arraycopy");
    private static final int UTF8 = 1;
    private static final int CLASS = 7;
    private static final int STRING = 8;
    private static final int FIELD = 9;
    private static final int METHOD = 10;
    private static final int METHOD_OF_INTERFACE = 11;
    private static final int NAME_AND_TYPE = 12;

    public static void main(String[] args) throws IOException {
        Check check = new Check();
        look(check, CountBook.class);
        for (Class<?> inside : CountBook.class.getDeclaredClasses()) {
            look(check, inside);
        }
        check.end("LibraryTest");
    }

    private static void look(Check check, Class<?> compiled) throws IOException {
        for (String used : usedBy(compiled)) {
            boolean isListed = used.startsWith("CountBook") || LISTED.contains(used);
            check.due(compiled + " may use " + used, isListed ? 1 : 0, 1);
        }
    }

    /** The members that a class names in its pool of constants, and whatever of it is no plain number or name. */
    private static Set<String> usedBy(Class<?> compiled) throws IOException {
        try (InputStream file = LibraryTest.class.getResourceAsStream(compiled.getName() + ".class")) {
            DataInputStream in = new DataInputStream(file);
            in.readInt();
            in.readInt();
            int size = in.readUnsignedShort();
            int[] tags = new int[size];
            int[] first = new int[size];
            int[] second = new int[size];
            String[] texts = new String[size];
            for (int i = 1; i < size; i++) {
                tags[i] = in.readUnsignedByte();
                switch (tags[i]) {
                    case UTF8 -> texts[i] = in.readUTF();
                    case 3, 4 -> in.readInt();
                    case 5, 6 -> {
                        in.readLong();
                        // Such a number takes two places.
                        i++;
                    }
                    case CLASS, STRING -> first[i] = in.readUnsignedShort();
                    case FIELD, METHOD, METHOD_OF_INTERFACE, NAME_AND_TYPE -> {
                        first[i] = in.readUnsignedShort();
                        second[i] = in.readUnsignedShort();
                    }
                    default -> {
                        // Handles and calls that are bound late: what lambdas and joined texts become.
                        return Set.of("a constant of kind " + tags[i]);
                    }
                }
            }
            Set<String> used = new TreeSet<>();
            for (int i = 1; i < size; i++) {
                if (tags[i] == FIELD || tags[i] == METHOD || tags[i] == METHOD_OF_INTERFACE) {
                    used.add(texts[first[first[i]]] + "." + texts[first[second[i]]]);
                }
            }
            return used;
        }
    }
}
