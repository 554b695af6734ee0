/** Promises 18 to 25: way, wayAt, round, spare, spared, made, madeAt, likely. */
public final class WaysTest {
    private static final int NONE = InchBorders.NONE;
    private static final String SQUARE = "land a 0 0;land b 5 0;land c 0 0;land d 1 0;"
        + "road a c 0 240;road a b 0 240;road b d 0 240;road c d 0 240;person p a 10;";
    private static final String LINE = "land a 0 0;land b 0 0;land c 0 0;land d 0 0;land e 0 0;land f 0 0;land g 0 0;"
        + "road a b 0 9;road b c 0 9;road c d 0 9;road d e 0 9;road e f 0 9;road f g 0 9;person p a 5;";
    private static final String PAIR = "land a 9 1;land b 0 0;store a 9;road a b 0 240;person p a 10;";

    public static void main(String[] args) {
        ways();
        wayEdges();
        rounds();
        spares();
        spareEdges();
        mades();
        madeEdges();
        Check.end();
    }

    private static void ways() {
        InchBorders x = Check.on(SQUARE);
        Check.due("of like ones the least LAND", x.way(0, 3, 4), 2);
        Check.due("of like ones the least LAND", Check.wayRow(x), "13");
        Check.due("through b he would be 4 long", x.way(0, 3, 5), 2);
        Check.due("so through c", Check.wayRow(x), "23");
        Check.due("9 long at most", x.way(0, 3, 9), 2);
        Check.due("not 10", x.way(0, 3, 10), NONE);
        Check.due("the row of the latest that was not NONE", Check.wayRow(x), "23");
        x.close(0);
        Check.due("a closed ROAD is no way", x.way(0, 3, 5), NONE);
        Check.due("the other one is", x.way(0, 2, 4), 3);
        Check.due("the other one is", Check.wayRow(x), "132");
        Check.due("all stays as it is", x.person(0, 1), 0);
        Check.due("all stays as it is", x.now(3), 0);

        x = Check.on(PAIR);
        Check.due("he grows by going round", x.way(0, 0, 11), 2);
        Check.due("he grows by going round", Check.wayRow(x), "10");
        Check.due("twice", x.way(0, 0, 12), 4);
        Check.due("twice", Check.wayRow(x), "1010");
        Check.due("and on", x.way(0, 1, 12), 5);
        Check.due("and on", Check.wayRow(x), "10101");
        Check.due("a third time is too far", x.way(0, 0, 13), NONE);
        x.lend(0, 1, 8);
        Check.due("the store has but one", x.way(0, 0, 12), NONE);
        Check.due("the store has one", x.way(0, 0, 11), 2);
        x.lend(0, 1, 1);
        Check.due("the store has none", x.way(0, 0, 11), NONE);
    }

    private static void wayEdges() {
        InchBorders x = Check.on(LINE);
        Check.due("none at all", x.way(0, 0, 5), 0);
        Check.due("none at all", x.wayAt(0), NONE);
        Check.due("five", x.way(0, 5, 5), 5);
        Check.due("five", Check.wayRow(x), "12345");
        Check.due("behind the last", x.wayAt(5), NONE);
        Check.due("wayAt(-1)", x.wayAt(-1), NONE);
        Check.due("wayAt(most)", x.wayAt(Integer.MAX_VALUE), NONE);
        Check.due("six are too many", x.way(0, 6, 0), NONE);
        Check.due("no such PERSON", x.way(1, 0, 0), NONE);
        Check.due("no such PERSON", x.way(-1, 0, 0), NONE);
        Check.due("no such LAND", x.way(0, 7, 0), NONE);
        Check.due("no such LAND", x.way(0, -1, 0), NONE);
        Check.due("n -1", x.way(0, 0, -1), NONE);
        Check.due("n 241", x.way(0, 0, 241), NONE);
        Check.due("n 240", x.way(0, 0, 240), NONE);
        Check.due("the five stay", Check.wayRow(x), "12345");
        Check.map(x, "");
        Check.due("over a new MAP too", Check.wayRow(x), "12345");
        x = Check.on("land a 0 0;person p a 240;");
        Check.due("n 240 where he is", x.way(0, 0, 240), 0);
        x = Check.on("land a 0 0;land b 3 0;land c 4 0;land d 0 0;road a b 0 240;road b c 0 8;road c d 0 4;person p a 11;");
        Check.due("the stiles are of how long he is then", x.way(0, 3, 4), 3);
        x.pact(0, 1);
        Check.due("spared, he is too long", x.way(0, 3, 0), NONE);
    }

    private static void rounds() {
        InchBorders x = Check.on(PAIR);
        Check.due("twice home", x.round(0), 12);
        x.cross(0, 1);
        Check.due("and from elsewhere", x.round(0), 12);
        x.close(0);
        Check.due("stuck", x.round(0), NONE);
        Check.due("no such one", x.round(1), NONE);
        Check.due("no such one", x.round(-1), NONE);
        x = Check.on("land a 0 3;land b 2 0;land c 1 0;store a 4;road a b 0 240;road b c 0 240;road c a 0 240;"
            + "person p a 10;person q b 10;");
        // Over c and back: 10 - 1 + 3, and once more with the 1 that is left: 12 - 1 + 1.
        Check.due("the best of all", x.round(0), 12);
        // q to c and back to b, which gives nothing.
        Check.due("a round may shorten", x.round(1), 10);
        x = Check.on("land a 0 0;land b 3 0;road a b 0 240;person p a 10;");
        Check.due("it may only shorten", x.round(0), 7);
        x = Check.on("land a 0 0;land b 3 0;road a b 8 240;person p a 10;");
        Check.due("no way back", x.round(0), NONE);
        x = Check.on("land a 0 20;land b 0 0;store a 99;road a b 0 240;person p a 230;");
        Check.due("240 at most", x.round(0), 240);
        Check.due("all stays as it is", x.person(0, 2), 230);
    }

    private static void spares() {
        InchBorders x = Check.on("land a 0 0;land b 3 0;land c 3 0;road a b 0 240;road b c 0 240;person p a 10;");
        Check.due("none is wanted", x.spare(0, 2, 4), 0);
        Check.due("none is wanted", x.spared(), 0);
        Check.due("either would do: the least", x.spare(0, 2, 5), 1);
        Check.due("either would do: the least", x.spared(), 2);
        Check.due("one for 7", x.spare(0, 2, 7), 1);
        Check.due("both for 8", x.spare(0, 2, 8), 2);
        Check.due("both for 8", x.spared(), 6);
        Check.due("not by all", x.spare(0, 2, 11), NONE);
        Check.due("the latest that was not NONE", x.spared(), 6);
        x.pact(0, 1);
        Check.due("besides those there are", x.spare(0, 2, 8), 1);
        Check.due("besides those there are", x.spared(), 4);
        Check.due("TREATIES stay", x.now(7), 1);
        x = Check.on("land a 0 0;land b 10 0;land c 0 0;road a b 0 240;road b c 0 240;person p a 10;");
        Check.due("b would TAKE all of him", x.way(0, 2, 0), NONE);
        Check.due("one TREATY opens a way", x.spare(0, 2, 10), 1);
        Check.due("one TREATY opens a way", x.spared(), 2);
    }

    private static void spareEdges() {
        InchBorders x = Check.on("land a 0 0;land b 3 0;land c 5 0;road a b 0 240;road b c 0 8;person p a 10;");
        Check.due("b's TREATY would bar him: c's alone", x.spare(0, 2, 7), 1);
        Check.due("b's TREATY would bar him: c's alone", x.spared(), 4);
        Check.due("no such PERSON", x.spare(1, 0, 0), NONE);
        Check.due("no such PERSON", x.spare(-1, 0, 0), NONE);
        Check.due("no such LAND", x.spare(0, 3, 0), NONE);
        Check.due("no such LAND", x.spare(0, -1, 0), NONE);
        Check.due("n -1", x.spare(0, 0, -1), NONE);
        Check.due("n 241", x.spare(0, 0, 241), NONE);
        Check.due("the latest stays", x.spared(), 4);
        // His HOME b has number 1; LANDS with which it is alike are no PACT.
        x = Check.on("land a 4 0;land b 9 0;land c 4 0;road b a 0 240;road b c 0 240;road a c 0 240;person p b 9;");
        Check.due("c itself", x.spare(0, 2, 9), 1);
        Check.due("c itself", x.spared(), 4);
        x = Check.on(LINE);
        Check.due("six CROSSINGS stay too many", x.spare(0, 6, 0), NONE);
    }

    private static void mades() {
        InchBorders x = Check.on(PAIR);
        Check.due("10 long: b", Check.made(x, 0, 10), 1);
        Check.due("its row", Check.madeRow(x), "1");
        Check.due("its end", x.likely(), 1);
        Check.due("11 long: b a, b a b", Check.made(x, 0, 11), 2);
        Check.due("the fewest", Check.madeRow(x), "10");
        Check.due("of like ones the first", x.likely(), 0);
        Check.due("12 long", Check.made(x, 0, 12), 1);
        Check.due("four CROSSINGS", Check.madeRow(x), "1010");
        Check.due("13 would take six", Check.made(x, 0, 13), 0);
        Check.due("the latest above 0", Check.madeRow(x), "1010");
        Check.due("the latest above 0", x.likely(), 0);
        Check.due("behind the last", x.madeAt(4), NONE);
        Check.due("madeAt(-1)", x.madeAt(-1), NONE);
        x = Check.on("land a 0 0;land b 1 0;land c 2 0;road a b 0 240;road a c 0 240;person p a 10;");
        // b; b a; then c c' not: 9 only by one visit to b: b, ba.
        Check.due("9 long: b, b a", Check.made(x, 0, 9), 2);
        // 8: c, c a, b a b, b a b a.
        Check.due("8 long", Check.made(x, 0, 8), 4);
        Check.due("c is the fewest", Check.madeRow(x), "2");
        Check.due("a c a c is 6 long", Check.made(x, 0, 6), 2);
        Check.due("LAND by LAND", Check.madeRow(x), "202");
        // 7: b a c, c a b, and both home.
        Check.due("7 long", Check.made(x, 0, 7), 4);
        Check.due("b comes ahead of c", Check.madeRow(x), "102");
        Check.due("home is likeliest", x.likely(), 0);
    }

    private static void madeEdges() {
        InchBorders x = Check.on(Check.THREE);
        Check.due("an empty tape", x.made(), NONE);
        Check.tape(x, new byte[] {0});
        Check.due("one byte", x.made(), NONE);
        Check.due("the tape is empty", x.count(3), 0);
        Check.tape(x, new byte[] {0, 50, 0});
        Check.due("three bytes", x.made(), NONE);
        Check.due("the tape is empty", x.count(3), 0);
        Check.due("no such PERSON", Check.made(x, 3, 50), NONE);
        Check.due("no such PERSON", Check.made(x, 255, 50), NONE);
        Check.due("ahead of any above 0", x.likely(), NONE);
        Check.due("ahead of any above 0", x.madeAt(0), NONE);
        Check.due("nobody is 0 long", Check.made(x, 0, 0), 0);
        Check.due("nobody is 255 long", Check.made(x, 0, 255), 0);
        Check.due("50 long", Check.made(x, 0, 50), 13);
        Check.due("the first", Check.madeRow(x), "2");
        Check.due("where", x.likely(), 0);
        Check.due("0 leaves it", Check.made(x, 0, 200), 0);
        Check.due("0 leaves it", Check.madeRow(x), "2");
        x = Check.on("land a 0 0;land b 0 0;road a b 0 240;person p a 200;");
        Check.due("a byte above 127", Check.made(x, 0, 200), 4);
    }
}
