/** Promises 4 and 5: map, fault. */
public final class MapTest {
    private static final String TWO = "land a 1 2;land b 3 4;";

    public static void main(String[] args) {
        ordinary();
        tokens();
        cantCome();
        numbers();
        names();
        tooMany();
        bytes();
        fresh();
        faults();
        Check.end();
    }

    private static void ordinary() {
        InchBorders x = new InchBorders();
        Check.due("an empty MAP", x.map(), 0);
        Check.due("blanks alone", Check.map(x, " \n  "), 0);
        Check.due("THREE", Check.map(x, Check.THREE), 12);
        Check.due("no FAULT", x.fault(), 0);
        Check.due("the tape is empty", x.count(3), 0);
        Check.due("LANDS", x.count(0), 3);
        Check.due("without blanks where none must be",
            Check.map(x, "land a 0 20;land b 20 0;road a b 0 0;person p b 240;person q a 1;store b 99;store a 0;"
                + "treaty a b;treaty b a;"), 9);
        Check.due("its first LAND's GIVE", x.land(0, 1), 20);
        Check.due("its second LAND's store", x.land(1, 2), 99);
        Check.due("both TREATIES", x.now(7), 2);
        Check.due("blanks wherever", Check.map(x, "\n land\na  0\n\n7 ; store a\n099 ;"), 2);
        Check.due("a NUMBER with noughts ahead", x.land(0, 2), 99);
        Check.due("a NAME of seven", Check.map(x, "land abcdefg 0 0;land z 0 0;"), 2);
        Check.due("LOW and HIGH alike", Check.map(x, TWO + "road a b 240 240;"), 3);
    }

    private static void tokens() {
        Check.mapFault("land abcdefgh 0 0;", 1, 5);
        Check.mapFault("land a1 0 0;", 1, 5);
        Check.mapFault("land 1a 0 0;", 1, 5);
        Check.mapFault("land a 0000 0;", 1, 7);
        Check.mapFault("land a 0 0a;", 1, 9);
        Check.mapFault("Land a 0 0;", 1, 0);
        Check.mapFault("land\ta 0 0;", 1, 4);
        Check.mapFault("land a 0 0;\r", 1, 11);
        Check.mapFault("land a 0 0.;", 1, 10);
        Check.mapFault("land a 0 0;" + (char) 233, 1, 11);
        Check.mapFault("landa 0 0;", 1, 0);
        Check.mapFault("land a 00;", 1, 9);
        Check.mapFault("land a -1 0;", 1, 7);
    }

    private static void cantCome() {
        Check.mapFault(";", 1, 0);
        Check.mapFault("a", 1, 0);
        Check.mapFault("7", 1, 0);
        Check.mapFault("  (", 1, 2);
        Check.mapFault("pact a b;", 1, 0);
        Check.mapFault("home", 1, 0);
        Check.mapFault("land", 1, 4);
        Check.mapFault("land  \n", 1, 7);
        Check.mapFault("land a 0 0", 1, 10);
        Check.mapFault("land a 0 0  ", 1, 12);
        Check.mapFault("land a 0 0;;", 1, 11);
        Check.mapFault("land a 0 0 0;", 1, 11);
        Check.mapFault("land 0 a 0;", 1, 5);
        Check.mapFault("land a 0 b;", 1, 9);
        Check.mapFault("land a 0 0;store a b;", 1, 19);
        Check.mapFault("land a 0 0;store 3 3;", 1, 17);
        Check.mapFault(TWO + "treaty a b 3;", 1, 33);
        Check.mapFault(TWO + "road a b < 3;", 1, 31);
        String[] kept = {"land", "store", "road", "treaty", "person", "crosses", "pact", "break", "close", "open",
            "lend", "day", "or", "and", "not", "home", "stuck", "in", "of", "free", "length", "taken", "crossed",
            "number"};
        for (String word : kept) {
            Check.mapFault("land " + word + " 0 0;", 1, 5);
            Check.mapFault("land a 0 0;person " + word + " a 5;", 1, 18);
            Check.mapFault("land a 0 0;store " + word + " 5;", 1, 17);
        }
        String[] free = {"why", "cross", "alike", "days", "roads", "lands", "length" + "s", "give", "take"};
        InchBorders x = new InchBorders();
        for (String word : free) {
            Check.due("a LAND " + word, Check.map(x, "land " + word + " 0 0;"), 1);
        }
    }

    private static void numbers() {
        Check.mapFault("land a 21 0;", 2, 7);
        Check.mapFault("land a 20 21;", 2, 10);
        Check.mapFault("land a 0 0;store a 100;", 2, 19);
        Check.mapFault(TWO + "road a b 241 240;", 2, 31);
        Check.mapFault(TWO + "road a b 0 241;", 2, 33);
        Check.mapFault(TWO + "road a b 5 4;", 2, 33);
        Check.mapFault("land a 0 0;person p a 0;", 2, 22);
        Check.mapFault("land a 0 0;person p a 241;", 2, 22);
        Check.mapFault("land a 21 x;", 2, 7);
    }

    private static void names() {
        Check.mapFault("land a 0 0;land a 0 0;", 3, 16);
        Check.mapFault("land a 0 0;person a a 1;", 3, 18);
        Check.mapFault("land a 0 0;person p a 1;land p 0 0;", 3, 29);
        Check.mapFault("land a 0 0;person p a 1;person p a 1;", 3, 31);
        Check.mapFault("land a 0 0;person p p 1;", 3, 20);
        Check.mapFault("land a 0 0;person p q 1;", 3, 20);
        Check.mapFault("store a 3;land a 0 0;", 3, 6);
        Check.mapFault("land a 0 0;person p a 1;store p 3;", 3, 30);
        Check.mapFault("land a 0 0;store a 3;store a 300;", 3, 27);
        Check.mapFault("land a 0 0;store a 0;store a 0;", 3, 27);
        Check.mapFault("road a b 0 1;", 3, 5);
        Check.mapFault(TWO + "road a c 0 1;", 3, 29);
        Check.mapFault(TWO + "road b b 0 1;", 3, 29);
        Check.mapFault(TWO + "road a b 0 1;road a b 0 1;", 3, 42);
        Check.mapFault(TWO + "road a b 0 1;road b a 0 1;", 3, 42);
        Check.mapFault(TWO + "treaty a a;", 3, 31);
        Check.mapFault(TWO + "treaty a b;treaty a b;", 3, 42);
        Check.mapFault(TWO + "treaty c a;", 3, 29);
    }

    private static String seven() {
        StringBuilder s = new StringBuilder();
        for (char c = 'a'; c < 'h'; c++) {
            s.append("land ").append(c).append(" 0 0;");
        }
        return s.toString();
    }

    private static void tooMany() {
        String seven = seven();
        Check.mapFault(seven + "land h 0 0;", 4, 77);
        Check.mapFault(seven + "land a 99 0;", 4, 77);
        Check.mapFault(seven + "land", 4, 77);
        StringBuilder roads = new StringBuilder(seven);
        int told = 0;
        for (char a = 'a'; a < 'h' && told < 12; a++) {
            for (char b = (char) (a + 1); b < 'h' && told < 12; b++) {
                roads.append("road ").append(a).append(' ').append(b).append(" 0 9;");
                told++;
            }
        }
        InchBorders x = new InchBorders();
        Check.due("seven LANDS, twelve ROADS", Check.map(x, roads.toString()), 19);
        Check.due("twelve ROADS", x.count(1), 12);
        Check.mapFault(roads + "road f g 0 9;", 4, roads.length());
        StringBuilder persons = new StringBuilder(seven);
        for (char p = 'p'; p < 'v'; p++) {
            persons.append("person ").append(p).append(" a 9;");
        }
        Check.due("six PERSONS", Check.map(x, persons.toString()), 13);
        Check.due("six PERSONS", x.count(2), 6);
        Check.mapFault(persons + "person v a 9;", 4, persons.length());
        Check.mapFault(persons + "\n\nperson 3;", 4, persons.length() + 2);
        StringBuilder treaties = new StringBuilder(seven);
        for (char a = 'a'; a < 'h'; a++) {
            for (char b = 'a'; b < 'h'; b++) {
                treaties.append(a == b ? "" : "treaty " + a + " " + b + ";");
            }
        }
        Check.due("all 42 TREATIES", Check.map(x, treaties.toString()), 49);
        Check.due("all 42 TREATIES", x.now(7), 42);
    }

    private static String padded(String head, int length, String tail) {
        StringBuilder s = new StringBuilder(head);
        while (s.length() < length) {
            s.append(' ');
        }
        return s + tail;
    }

    private static void bytes() {
        InchBorders x = new InchBorders();
        Check.due("900 bytes", Check.map(x, padded("land a 0 0;", 900, "")), 1);
        Check.due("900 bytes to the last sign", Check.map(x, padded("land a 0 0", 899, ";")), 1);
        Check.mapFault(padded("land a 0 0;", 901, ""), 1, 900);
        Check.mapFault(padded("land a 0 0;", 940, ""), 1, 900);
        Check.mapFault(padded("land a 0 0", 900, ";"), 1, 900);
        Check.mapFault(padded("land a 0 0;", 899, "land b 0 0;"), 1, 900);
        Check.mapFault(padded("land a 0 0", 899, ";land b"), 1, 900);
        // A TOKEN that begins ahead of the 900th byte is read whole, and so may be at fault itself.
        Check.mapFault(padded("land ", 895, "abcdefg 0 0;"), 1, 900);
        Check.mapFault(padded("land ", 895, "abcdefgh 0 0;"), 1, 895);
        Check.mapFault(padded("land a 0", 899, "200;"), 2, 899);
        Check.mapFault(padded("land a 0", 899, "20;"), 1, 900);
        Check.mapFault(padded("land a 0", 899, "2000;"), 1, 899);
        Check.mapFault(padded("land a 0", 940, ""), 1, 900);
        Check.mapFault(padded("land a 0 21;", 940, ""), 2, 9);
        Check.mapFault(padded("land a 0 0;land b", 899, "0"), 1, 900);
        Check.mapFault(padded("land a 0 0;", 899, "?"), 1, 899);
    }

    private static void fresh() {
        InchBorders x = Check.on(Check.THREE);
        x.cross(0, 1);
        x.close(2);
        x.days(9);
        Check.sentence(x, "home");
        Check.due("the same MAP again", Check.map(x, Check.THREE), 12);
        Check.due("all is as told", Check.sight(x), Check.sight(Check.on(Check.THREE)));
        Check.due("DAY 0", x.now(0), 0);
        Check.due("all ROADS are open", x.now(4), 0);
        Check.due("no SENTENCE", x.said(NONE), NONE);
        Check.due("nothing of the MAP ahead can be undone", x.undo(), NONE);
        x.cross(0, 1);
        x.days(3);
        Check.sentence(x, "in bb");
        String before = Check.sight(x);
        Check.due("a MAP with a FAULT", Check.map(x, "land a 0 0;land a 0 0;"), -17);
        Check.due("all stays", Check.sight(x), before);
        Check.due("the SENTENCE too", x.said(NONE), 2);
        Check.due("and what can be undone", x.undo(), 1);
        Check.due("an empty MAP", Check.map(x, ""), 0);
        Check.due("has no LANDS", x.count(0), 0);
        Check.due("nor PERSONS", x.count(2), 0);
    }

    private static final int NONE = InchBorders.NONE;

    private static void faults() {
        InchBorders x = Check.on(Check.THREE);
        Check.map(x, "land a 21 0;");
        Check.due("of a MAP", x.fault(), 2);
        Check.tape(x, "x");
        x.book(3);
        Check.due("a book() of -1000 leaves it", x.fault(), 2);
        Check.due("of a BOOK", x.book(0), -2);
        Check.due("of a BOOK", x.fault(), 3);
        Check.sentence(x, "");
        Check.due("of a SENTENCE", x.fault(), 1);
        x.made();
        x.undo();
        x.image(0);
        x.restore(0);
        Check.due("other calls leave it", x.fault(), 1);
        Check.book(x, "", 0);
        Check.due("a BOOK without one", x.fault(), 0);
        Check.sentence(x, "home home");
        Check.due("of a SENTENCE", x.fault(), 1);
        Check.sentence(x, "home");
        Check.due("a SENTENCE without one", x.fault(), 0);
        Check.map(x, ";");
        Check.map(x, Check.THREE);
        Check.due("a MAP without one", x.fault(), 0);
    }
}
