/** Promises 1 to 3 and 41: a new object, feed, end, count. */
public final class TapeTest {
    private static final int NONE = InchBorders.NONE;

    public static void main(String[] args) {
        newObject();
        feeding();
        ending();
        counting();
        Check.end();
    }

    private static void newObject() {
        InchBorders x = new InchBorders();
        Check.due("NONE", NONE, -1);
        for (int k = 0; k < 4; k++) {
            Check.due("count(" + k + ") of a new object", x.count(k), 0);
        }
        for (int k = 0; k < 8; k++) {
            Check.due("now(" + k + ") of a new object", x.now(k), 0);
        }
        Check.refuses("person of a new object", x, 0, 0);
        Check.due("no ROAD to close", x.close(0), 1);
        Check.due("nothing to undo", x.undo(), NONE);
        Check.due("no SENTENCE", x.said(NONE), NONE);
        Check.due("no FAULT", x.fault(), 0);
        Check.due("no draws without LANDS", x.drawn(1, 1), NONE);
        Check.due("nothing is kept", x.restore(1), false);
        Check.due("ahead of any way()", x.wayAt(0), NONE);
        Check.due("ahead of any spare()", x.spared(), NONE);
        Check.due("ahead of any made()", x.madeAt(0), NONE);
        Check.due("ahead of any made()", x.likely(), NONE);
        Check.due("ahead of any caravan()", x.caravanAt(0), NONE);
        Check.due("ahead of any part()", x.parting(), NONE);
        Check.due("ahead of any pass()", x.byteAt(0), NONE);
        for (int k = 0; k < 4; k++) {
            Check.due("told(" + k + ") ahead of any book()", x.told(k), NONE);
        }
    }

    private static void feeding() {
        InchBorders x = new InchBorders();
        for (int k = 1; k <= 47; k++) {
            Check.due("feed " + k, x.feed(k, -1, 0, 7, 9), 20 * k);
        }
        Check.due("a 48th feed is too much", x.feed(0, 0, 0, 0, 0), NONE);
        Check.due("and leaves the tape", x.count(3), 940);
        Check.due("cut", x.end(921), true);
        Check.due("941 would be too many", x.feed(0, 0, 0, 0, 0), NONE);
        Check.due("cut", x.end(920), true);
        Check.due("940 are not", x.feed(0, 0, 0, 0, 0), 940);

        x = Check.on(Check.THREE);
        // Person 1, 16 long, stands in the highest bytes of the first number.
        x.feed(1 << 24 | 16 << 16, 0, 0, 0, 0);
        x.end(2);
        Check.due("the highest byte comes first", x.made() > 0, true);
        // "land x 0 0;" over three numbers.
        x.feed(0x6c616e64, 0x20782030, 0x20303b00, 0, 0);
        x.end(11);
        Check.due("numbers come as given", x.map(), 1);
        // A byte above 127 is no TOKEN, whichever number it ends.
        x.feed(0x6c616e64, 0x20782030, 0x20303bff, 0, 0);
        x.end(12);
        Check.due("byte 255", x.map(), -12);
        Check.due("its FAULT", x.fault(), 1);
        Check.tape(x, "land a 0 0;");
        x.feed(0x6c616e64, 0x20622030, 0x20303b20, 0x20202020, 0x20202020);
        Check.due("more comes behind what is there", x.map(), 2);
    }

    private static void ending() {
        InchBorders x = new InchBorders();
        Check.due("end(0) of an empty tape", x.end(0), true);
        Check.due("end(1) of an empty tape", x.end(1), false);
        x.feed(1, 2, 3, 4, 5);
        Check.due("end(21)", x.end(21), false);
        Check.due("end(-1)", x.end(-1), false);
        Check.due("end(least)", x.end(Integer.MIN_VALUE), false);
        Check.due("end(most)", x.end(Integer.MAX_VALUE), false);
        Check.due("all stays", x.count(3), 20);
        Check.due("end(20)", x.end(20), true);
        Check.due("end(7)", x.end(7), true);
        Check.due("seven are left", x.count(3), 7);
        Check.due("no eighth", x.end(8), false);
        Check.due("feed goes on behind", x.feed(0, 0, 0, 0, 0), 27);
    }

    private static void counting() {
        InchBorders x = Check.on("land a 1 1;land b 1 1;land c 1 1;road a b 0 9;road b c 0 9;person p a 5;");
        Check.due("LANDS", x.count(0), 3);
        Check.due("ROADS", x.count(1), 2);
        Check.due("PERSONS", x.count(2), 1);
        Check.due("bytes", x.count(3), 0);
        x.feed(0, 0, 0, 0, 0);
        Check.due("bytes", x.count(3), 20);
        Check.due("count(4)", x.count(4), NONE);
        Check.due("count(-1)", x.count(-1), NONE);
        Check.due("count(least)", x.count(Integer.MIN_VALUE), NONE);
    }
}
