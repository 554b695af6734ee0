/** Promises 26 to 32: caravan, caravanAt, part, parting, rests, pass, byteAt. */
public final class TogetherTest {
    private static final int NONE = InchBorders.NONE;

    public static void main(String[] args) {
        caravans();
        caravanEdges();
        parts();
        rests();
        passes();
        Check.end();
    }

    private static void caravans() {
        InchBorders x = Check.on("land a 5 4;land b 0 0;road a b 0 240;person p a 20;person q a 20;person r b 20;"
            + "person s b 20;");
        x.cross(0, 1);
        x.cross(1, 1);
        // r and s bring 5 each, p and q get 4 each of that: 80 - 10 + 8, if none of p and q comes too early.
        Check.due("those who bring come ahead", x.caravan(0), 78);
        // r, p, q, s would give q but 1; r, p, s, q gives both 4 and comes ahead of r, s, p, q.
        Check.due("of like ones the first", Check.caravanRow(x), "2031");
        Check.due("behind the last", x.caravanAt(4), NONE);
        Check.due("caravanAt(-1)", x.caravanAt(-1), NONE);
        Check.due("all stays", x.now(1), 80);
        Check.due("all stays", x.land(0, 4), 0);
        x.pact(1, 0);
        Check.due("the spared bring nothing: any order is like", x.caravan(0), 80);
        Check.due("PERSON by PERSON", Check.caravanRow(x), "0123");
    }

    private static void caravanEdges() {
        InchBorders x = Check.on(Check.THREE);
        Check.due("to bb", x.caravan(1), 75);
        Check.due("bob is there", Check.caravanRow(x), "02");
        Check.due("no such LAND", x.caravan(3), NONE);
        Check.due("no such LAND", x.caravan(-1), NONE);
        Check.due("the latest that was not NONE", Check.caravanRow(x), "02");
        x.close(0);
        Check.due("ann can't", x.caravan(1), 77);
        Check.due("ann can't", Check.caravanRow(x), "2");
        x.close(1);
        Check.due("nobody can", x.caravan(1), 79);
        Check.due("nobody", x.caravanAt(0), NONE);
        x = Check.on("land a 0 0;");
        Check.due("no PERSONS", x.caravan(0), 0);
        x = Check.on("land a 1 20;land b 0 0;road a b 0 240;person p a 239;person q a 9;store a 9;");
        x.cross(0, 1);
        x.cross(1, 1);
        // p lacks 1 alone; q takes the other 8, or all 9 if he is first: like, so p is first.
        Check.due("nobody beyond 240", x.caravan(0), 257);
        Check.due("p ahead", Check.caravanRow(x), "01");
    }

    private static void parts() {
        InchBorders x = Check.on("land a 0 0;land b 0 0;land c 0 0;land d 0 0;road a b 0 1;road b d 0 1;road a c 0 1;"
            + "road c d 0 1;road b c 0 1;");
        Check.due("a of d", x.part(0, 3), 2);
        Check.due("a's two, the least as bits", x.parting(), 5);
        Check.due("d of a", x.part(3, 0), 2);
        Check.due("d of a", x.parting(), 5);
        Check.due("b of c", x.part(1, 2), 3);
        Check.due("the least as bits", x.parting(), 19);
        x.close(0);
        Check.due("one is closed", x.part(0, 3), 1);
        Check.due("one is closed", x.parting(), 4);
        x.close(2);
        Check.due("they are parted", x.part(0, 3), 0);
        Check.due("they are parted", x.parting(), 0);
        Check.due("closed ROADS stay", x.now(4), 5);
        Check.due("b and d are not", x.part(1, 3), 2);
        Check.due("b and d are not", x.parting(), 10);
        Check.due("alike", x.part(1, 1), NONE);
        Check.due("no such", x.part(4, 1), NONE);
        Check.due("no such", x.part(1, 4), NONE);
        Check.due("no such", x.part(-1, 1), NONE);
        Check.due("the latest that was not NONE", x.parting(), 10);
        x = Check.on("land a 0 0;land b 0 0;land c 0 0;land d 0 0;land e 0 0;land f 0 0;land g 0 0;road a g 0 1;"
            + "road g b 0 1;road b f 0 1;road f c 0 1;road c e 0 1;road e d 0 1;");
        Check.due("a long way", x.part(0, 3), 1);
        Check.due("the first ROAD of it", x.parting(), 1);
        x.close(5);
        Check.due("its last is closed", x.part(3, 0), 0);
    }

    private static void rests() {
        InchBorders x = Check.on(Check.THREE);
        Check.due("bb's store lasts 10 DAYS", x.rests(), 10);
        x.days(4);
        Check.due("6 more", x.rests(), 6);
        x.days(6);
        Check.due("today", x.rests(), 0);
        Check.due("DAYS stay", x.now(0), 10);
        x = Check.on("land a 0 0;store a 99;person p a 235;");
        Check.due("till 240", x.rests(), 5);
        x = Check.on("land a 0 0;store a 99;person p a 1;person q a 1;");
        Check.due("99 of two", x.rests(), 50);
        for (int k = 0; k < 6; k++) {
            x.days(60);
        }
        Check.due("nobody any more", x.rests(), 0);
        x.days(39);
        Check.due("on the last DAY", x.rests(), 0);
        x.days(1);
        Check.due("there is no DAY ahead of 400", x.rests(), NONE);
        x = Check.on("land a 0 0;land b 0 0;road a b 0 240;store a 99;person p a 1;");
        x.cross(0, 1);
        for (int k = 0; k < 6; k++) {
            x.days(60);
        }
        x.cross(0, 0);
        Check.due("he would grow to the end", x.rests(), NONE);
        x.lend(0, 1, 60);
        Check.due("39 DAYS", x.rests(), 39);
        x.lend(1, 0, 1);
        Check.due("40 DAYS would be DAY 400", x.rests(), NONE);
        Check.due("none grows on a MAP without", new InchBorders().rests(), 0);
    }

    private static void passes() {
        InchBorders x = Check.on("land abcdefg 0 0;land z 1 0;road abcdefg z 0 240;person hijklmn abcdefg 240;"
            + "person y z 10;person x z 9;");
        Check.due("the longest", x.pass(0), 33);
        Check.due("the longest", Check.passText(x), "hijklmn of abcdefg in abcdefg 240");
        Check.due("two digits", x.pass(1), 14);
        Check.due("two digits", Check.passText(x), "y of z in z 10");
        Check.due("one digit", x.pass(2), 13);
        Check.due("one digit", Check.passText(x), "x of z in z 9");
        Check.due("no such one", x.pass(3), NONE);
        Check.due("no such one", x.pass(-1), NONE);
        Check.due("the latest PASS stays", x.byteAt(0), 'x');
        Check.due("byteAt(-1)", x.byteAt(-1), NONE);
        Check.due("byteAt(13)", x.byteAt(13), NONE);
        x.cross(0, 1);
        Check.due("a PASS is of when it was asked", Check.passText(x), "x of z in z 9");
        x.pass(0);
        Check.due("elsewhere", Check.passText(x), "hijklmn of abcdefg in z 239");
        x.cross(2, 0);
        Check.map(x, "");
        Check.due("over a new MAP too", x.byteAt(26), '9');
        x = Check.on("land a 0 0;person p a 100;person q a 207;");
        x.pass(0);
        Check.due("noughts", Check.passText(x), "p of a in a 100");
        x.pass(1);
        Check.due("noughts", Check.passText(x), "q of a in a 207");
    }
}
