import java.lang.reflect.InvocationTargetException;
import java.nio.charset.StandardCharsets;
import java.util.NoSuchElementException;

/** What the tests share: a tape fed with a text, and answers held against those that are due. */
final class Check {
    static final String THREE = "land aa 3 5;land bb 2 4;land cc 4 1;store aa 2;store bb 10;"
        + "road aa bb 10 100;road bb cc 5 60;road cc aa 0 240;treaty aa cc;"
        + "person ann aa 50;person bob bb 20;person cid cc 9;";

    private static int seen = 0;
    private static int wrong = 0;
    private static String sentence = "";

    private Check() {
    }

    /** The document's sentence that the answers from here on are of. */
    static void of(String words) {
        sentence = words + ": ";
    }

    static void due(String what, long got, long want) {
        seen++;
        if (got != want) {
            wrong++;
            System.out.println(sentence + what + " answered " + got + ", due is " + want);
        }
    }

    static void due(String what, boolean got, boolean want) {
        due(what, got ? 1 : 0, want ? 1 : 0);
    }

    /** Bits, rows and the like, told in one line. */
    static void due(String what, String got, String want) {
        seen++;
        if (!got.equals(want)) {
            wrong++;
            System.out.println(sentence + what + " answered " + got + ", due is " + want);
        }
    }

    static void refuses(String what, InchBorders x, int p, int of) {
        int thrown = 0;
        try {
            x.person(p, of);
        } catch (NoSuchElementException e) {
            thrown = 1;
        }
        due(what + " throws", thrown, 1);
    }

    /** The answer of a call told by its name (a boolean counts 1 or 0; NSE: it throws NoSuchElementException). */
    static String called(InchBorders x, String name, String[] given) throws ReflectiveOperationException {
        Class<?>[] types = new Class<?>[given.length];
        Object[] values = new Object[given.length];
        for (int i = 0; i < given.length; i++) {
            types[i] = int.class;
            values[i] = Integer.valueOf(given[i]);
        }
        try {
            Object answer = InchBorders.class.getMethod(name, types).invoke(x, values);
            return answer instanceof Boolean ? ((Boolean) answer ? "1" : "0") : answer.toString();
        } catch (InvocationTargetException e) {
            return e.getCause() instanceof NoSuchElementException ? "NSE" : e.getCause().toString();
        }
    }

    static void end() {
        System.out.println(wrong == 0 ? seen + " answers are as due" : wrong + " answers are not as due");
        if (wrong != 0) {
            System.exit(1);
        }
    }

    static void tape(InchBorders x, byte[] text) {
        x.end(0);
        for (int i = 0; i < text.length; i += 20) {
            x.feed(word(text, i), word(text, i + 4), word(text, i + 8), word(text, i + 12), word(text, i + 16));
        }
        x.end(text.length);
    }

    static void tape(InchBorders x, String text) {
        tape(x, text.getBytes(StandardCharsets.ISO_8859_1));
    }

    private static int word(byte[] text, int from) {
        int word = 0;
        for (int i = from; i < from + 4; i++) {
            word = word << 8 | (i < text.length ? text[i] & 255 : 0);
        }
        return word;
    }

    static int map(InchBorders x, String text) {
        tape(x, text);
        return x.map();
    }

    static InchBorders on(String text) {
        InchBorders x = new InchBorders();
        int answer = map(x, text);
        if (answer < 0) {
            due("the MAP " + text, answer, 0);
        }
        return x;
    }

    static int book(InchBorders x, String text, int lives) {
        tape(x, text);
        return x.book(lives);
    }

    static int sentence(InchBorders x, String text) {
        tape(x, text);
        return x.sentence();
    }

    static int made(InchBorders x, int p, int length) {
        tape(x, new byte[] {(byte) p, (byte) length});
        return x.made();
    }

    static void mapFault(String text, int kind, int place) {
        InchBorders x = on(THREE);
        due("map of " + text, map(x, text), -1 - place);
        due("fault of " + text, x.fault(), kind);
        due("the MAP stays behind " + text, x.count(2), 3);
        due("the tape is empty behind " + text, x.count(3), 0);
    }

    static String wayRow(InchBorders x) {
        StringBuilder row = new StringBuilder();
        for (int k = 0; x.wayAt(k) != InchBorders.NONE; k++) {
            row.append(x.wayAt(k));
        }
        return row.toString();
    }

    static String madeRow(InchBorders x) {
        StringBuilder row = new StringBuilder();
        for (int k = 0; x.madeAt(k) != InchBorders.NONE; k++) {
            row.append(x.madeAt(k));
        }
        return row.toString();
    }

    static String caravanRow(InchBorders x) {
        StringBuilder row = new StringBuilder();
        for (int k = 0; x.caravanAt(k) != InchBorders.NONE; k++) {
            row.append(x.caravanAt(k));
        }
        return row.toString();
    }

    static String passText(InchBorders x) {
        StringBuilder text = new StringBuilder();
        for (int i = 0; x.byteAt(i) != InchBorders.NONE; i++) {
            text.append((char) x.byteAt(i));
        }
        return text.toString();
    }

    /** What acts change, by few calls: an object is used for 512 at most. */
    static String brief(InchBorders x) {
        StringBuilder s = new StringBuilder();
        for (int k = 0; k < 8; k++) {
            s.append(x.now(k)).append(' ');
        }
        for (int l = 0; l < 3; l++) {
            s.append(x.land(l, 2)).append(' ').append(x.land(l, 3)).append(' ').append(x.land(l, 4)).append(' ');
        }
        return s.append(x.person(0, 2)).append(' ').append(x.person(1, 2)).toString();
    }

    /** All that can be seen of the MAP and what is so, so that two can be held against each other. */
    static String sight(InchBorders x) {
        StringBuilder s = new StringBuilder();
        for (int k = 0; k < 8; k++) {
            s.append(x.now(k)).append(' ');
        }
        for (int l = 0; l < x.count(0); l++) {
            for (int k = 0; k < 5; k++) {
                s.append(x.land(l, k)).append(' ');
            }
        }
        for (int r = 0; r < x.count(1); r++) {
            for (int k = 0; k < 5; k++) {
                s.append(x.road(r, k)).append(' ');
            }
        }
        for (int p = 0; p < x.count(2); p++) {
            for (int k = 0; k < 7; k++) {
                s.append(x.person(p, k)).append(' ');
            }
        }
        return s.toString();
    }
}
