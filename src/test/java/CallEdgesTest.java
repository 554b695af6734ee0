import java.util.NoSuchElementException;

/** Each sentence of the promises 1 to 41 that names an edge, by itself: refused calls, what is told last, what is kept. */
public final class CallEdgesTest {
    private static final int NONE = InchBorders.NONE;
    private static final int LEAST = Integer.MIN_VALUE;
    private static final int MOST = Integer.MAX_VALUE;

    /** One call, whose answer is told as a number. */
    private interface Call {
        long on(InchBorders x);
    }

    public static void main(String[] args) {
        newObject();
        tape();
        looksRefused();
        actsRefused();
        waysRefused();
        drawsRefused();
        placesRefused();
        textsRefused();
        whyNotChangesNothing();
        amounts();
        aheadOfAny();
        toldLast();
        undoEight();
        undoOfEach();
        undoOfNone();
        books();
        whatIsSaid();
        images();
        freshMap();
        freshBehindTrials();
        fullMap();
        oddsDays();
        manyCalls();
        Check.end();
    }

    /** A state in which all there is to see is other than at first. */
    private static InchBorders rich() {
        InchBorders x = Check.on(Check.THREE);
        x.days(2);
        x.image(0);
        x.cross(0, 1);
        x.pact(1, 0);
        x.close(2);
        x.way(1, 2, 0);
        x.spare(0, 0, 0);
        Check.made(x, 1, 18);
        x.caravan(2);
        x.part(0, 1);
        x.pass(1);
        Check.book(x, "day 3;open 2;open 2;", 0);
        Check.sentence(x, "in bb");
        Check.map(x, "land a 21 0;");
        x.feed(1, 2, 3, 4, 5);
        return x;
    }

    private static String lastTold(InchBorders x) {
        StringBuilder s = new StringBuilder(Check.wayRow(x) + " " + Check.madeRow(x) + " " + Check.caravanRow(x));
        s.append(' ').append(x.spared()).append(' ').append(x.likely()).append(' ').append(x.parting());
        for (int k = 0; k < 4; k++) {
            s.append(' ').append(x.told(k));
        }
        return s.append(' ').append(x.byteAt(0)).append(' ').append(x.byteAt(16)).toString();
    }

    private static String all(InchBorders x) {
        return Check.sight(x) + "| " + lastTold(x) + " | " + x.said(NONE) + x.said(0) + x.said(1) + " fault " + x.fault()
            + " tape " + x.count(3);
    }

    private static void refused(String what, Call call, long due) {
        InchBorders x = rich();
        String before = all(x);
        Check.due(what, call.on(x), due);
        Check.due(what + " leaves all", all(x), before);
        Check.due(what + " leaves what can be undone", x.undo(), 3);
        Check.due(what + " leaves what is kept", x.restore(0), true);
        Check.due(what + " leaves what is kept", x.now(0), 2);
        Check.due(what + " keeps nothing", x.restore(1), false);
    }

    private static void newObject() {
        Check.of("Promise 1: 'A MAP without LANDS; an empty tape'");
        InchBorders x = new InchBorders();
        Check.due("LANDS", x.count(0), 0);
        Check.due("ROADS", x.count(1), 0);
        Check.due("PERSONS", x.count(2), 0);
        Check.due("bytes", x.count(3), 0);
        Check.due("the DAY", x.now(0), 0);
        Check.due("no bytes to keep", x.end(1), false);
        Check.due("land", x.land(0, 0), NONE);
        Check.due("road", x.road(0, 0), NONE);
        Check.refuses("person", x, 0, 0);
        Check.due("cross", x.cross(0, 0), NONE);
        Check.due("pact", x.pact(0, 0), NONE);
        Check.due("breaks", x.breaks(0, 0), NONE);
        Check.due("lend", x.lend(0, 0, 1), NONE);
        Check.due("close", x.close(0), 1);
        Check.due("open", x.open(0), 1);
        Check.due("way", x.way(0, 0, 0), NONE);
        Check.due("round", x.round(0), NONE);
        Check.due("spare", x.spare(0, 0, 0), NONE);
        Check.due("made", Check.made(x, 0, 1), NONE);
        Check.due("caravan", x.caravan(0), NONE);
        Check.due("part", x.part(0, 1), NONE);
        Check.due("rests", x.rests(), 0);
        Check.due("pass", x.pass(0), NONE);
        Check.due("drawn", x.drawn(1, 0), NONE);
        Check.due("odds", x.odds(0, 1, 0), NONE);
        Check.due("a BOOK of DAYS", Check.book(x, "day 60;", 1), NONE);
        Check.due("DAYS go without LANDS", x.now(0), 60);
        Check.due("they can be undone", x.undo(), 0);
        Check.due("an image of it", x.image(0), true);
        Check.map(x, Check.THREE);
        Check.due("is kept", x.restore(0), true);
        Check.due("LANDS", x.count(0), 0);
        InchBorders y = Check.on(Check.THREE);
        Check.due("another object has its own MAP", new InchBorders().count(0) + y.count(0), 3);
    }

    private static void tape() {
        Check.of("Promise 2: 'NONE, and none come, if it would have more than 940'");
        InchBorders x = new InchBorders();
        for (int k = 1; k <= 47; k++) {
            Check.due("feed " + k, x.feed(0, 0, 0, 0, 0), 20 * k);
        }
        Check.due("a 48th", x.feed(0, 0, 0, 0, 0), NONE);
        Check.due("none come", x.count(3), 940);
        for (int n = 939; n > 920; n--) {
            x.end(n);
            Check.due("behind " + n, x.feed(0, 0, 0, 0, 0), NONE);
            Check.due("none come behind " + n, x.count(3), n);
        }
        x.end(920);
        Check.due("behind 920", x.feed(0, 0, 0, 0, 0), 940);
        Check.of("Promise 2: 'of each number the highest first', behind the tape");
        x.end(0);
        Check.due("an 'l' in the highest byte", x.feed('l' << 24, 0, 0, 0, 0), 20);
        x.end(1);
        Check.due("the rest behind it", x.feed(0x616e6420, 0x61203020, 0x303b2020, 0x20202020, 0x0a0a0a0a), 21);
        Check.due("they are 'land a 0 0;'", x.map(), 1);
        for (int k = 0; k < 5; k++) {
            for (int shift = 24; shift >= 0; shift -= 8) {
                int[] five = {0x20202020, 0x20202020, 0x20202020, 0x20202020, 0x20202020};
                five[k] = five[k] & ~(255 << shift) | 200 << shift;
                x.feed(five[0], five[1], five[2], five[3], five[4]);
                Check.due("the place of byte 200", x.map(), -1 - (4 * k + (24 - shift) / 8));
            }
        }
        Check.of("Promise 3: 'false, if it has not so many, or n is below 0'");
        x.feed(1, 2, 3, 4, 5);
        Check.due("as many as it has", x.end(20), true);
        Check.due("one more", x.end(21), false);
        Check.due("-1", x.end(-1), false);
        Check.due("least", x.end(LEAST), false);
        Check.due("most", x.end(MOST), false);
        Check.due("nothing was cut", x.count(3), 20);
        Check.due("one less", x.end(19), true);
        Check.due("what was cut is gone", x.end(20), false);
        Check.due("none at all", x.end(0), true);
        Check.due("none of none", x.end(0), true);
        Check.due("one of none", x.end(1), false);
    }

    private static int person(InchBorders x, int p, int what) {
        try {
            return x.person(p, what);
        } catch (NoSuchElementException e) {
            return -99;
        }
    }

    private static void looksRefused() {
        Check.of("Promise 6: 'NoSuchElementException: no such ones', 'A call that throws changes nothing'");
        for (int p : new int[] {-1, 3, 6, LEAST, MOST}) {
            refused("person(" + p + ", 0)", x -> person(x, p, 0), -99);
        }
        for (int what : new int[] {-1, 7, LEAST, MOST}) {
            refused("person(0, " + what + ")", x -> person(x, 0, what), -99);
            refused("person(3, " + what + ")", x -> person(x, 3, what), -99);
        }
        Check.of("Promise 7: 'NONE: no such ones'");
        for (int l : new int[] {-1, 3, 7, LEAST, MOST}) {
            refused("land(" + l + ", 0)", x -> x.land(l, 0), NONE);
        }
        for (int what : new int[] {-1, 5, LEAST, MOST}) {
            refused("land(0, " + what + ")", x -> x.land(0, what), NONE);
        }
        Check.of("Promise 8: 'NONE: no such ones'");
        for (int r : new int[] {-1, 3, 12, LEAST, MOST}) {
            refused("road(" + r + ", 4)", x -> x.road(r, 4), NONE);
        }
        for (int what : new int[] {-1, 5, LEAST, MOST}) {
            refused("road(0, " + what + ")", x -> x.road(0, what), NONE);
        }
        Check.of("Promises 9, 36, 41: 'NONE for another what'");
        for (int what : new int[] {-1, 8, LEAST, MOST}) {
            refused("now(" + what + ")", x -> x.now(what), NONE);
            refused("told(" + what + ")", x -> x.told(what), NONE);
            refused("count(" + what + ")", x -> x.count(what), NONE);
        }
        refused("told(4)", x -> x.told(4), NONE);
        refused("count(4)", x -> x.count(4), NONE);
    }

    private static void actsRefused() {
        Check.of("Promises 10 to 12, 15: 'NONE: no such ones'");
        for (int bad : new int[] {-1, 3, 7, LEAST, MOST}) {
            refused("cross(" + bad + ", 0)", x -> x.cross(bad, 0), NONE);
            refused("cross(0, " + bad + ")", x -> x.cross(0, bad), NONE);
            refused("pact(" + bad + ", 0)", x -> x.pact(bad, 0), NONE);
            refused("pact(0, " + bad + ")", x -> x.pact(0, bad), NONE);
            refused("pact of " + bad + " twice", x -> x.pact(bad, bad), NONE);
            refused("breaks(" + bad + ", 0)", x -> x.breaks(bad, 0), NONE);
            refused("breaks(0, " + bad + ")", x -> x.breaks(0, bad), NONE);
            refused("lend(" + bad + ", 0, 1)", x -> x.lend(bad, 0, 1), NONE);
            refused("lend(1, " + bad + ", 1)", x -> x.lend(1, bad, 1), NONE);
            refused("lend of " + bad + " twice", x -> x.lend(bad, bad, 1), NONE);
        }
        Check.of("Promise 15: 'A LAND LENDS n (1 to 99)'");
        for (int n : new int[] {0, 100, -1, LEAST, MOST}) {
            refused("lend(1, 0, " + n + ")", x -> x.lend(1, 0, n), NONE);
            refused("lend(0, 0, " + n + ")", x -> x.lend(0, 0, n), NONE);
        }
        Check.of("Promises 13, 14: 'NONE: not 0 to 11'");
        for (int r : new int[] {-1, 12, 32, LEAST, MOST}) {
            refused("close(" + r + ")", x -> x.close(r), NONE);
            refused("open(" + r + ")", x -> x.open(r), NONE);
        }
        Check.of("Promise 16: 'n (1 to 60)', 'NONE: not as told'");
        for (int n : new int[] {0, 61, -1, LEAST, MOST}) {
            refused("days(" + n + ")", x -> x.days(n), NONE);
        }
    }

    private static void waysRefused() {
        Check.of("Promises 18, 20, 21, 31: 'NONE: no such ones'");
        for (int bad : new int[] {-1, 3, 7, LEAST, MOST}) {
            refused("way(" + bad + ", 0, 0)", x -> x.way(bad, 0, 0), NONE);
            refused("way(0, " + bad + ", 0)", x -> x.way(0, bad, 0), NONE);
            refused("round(" + bad + ")", x -> x.round(bad), NONE);
            refused("spare(" + bad + ", 0, 0)", x -> x.spare(bad, 0, 0), NONE);
            refused("spare(0, " + bad + ", 0)", x -> x.spare(0, bad, 0), NONE);
            refused("caravan(" + bad + ")", x -> x.caravan(bad), NONE);
            refused("part(" + bad + ", 0)", x -> x.part(bad, 0), NONE);
            refused("part(0, " + bad + ")", x -> x.part(0, bad), NONE);
            refused("part of " + bad + " twice", x -> x.part(bad, bad), NONE);
            refused("pass(" + bad + ")", x -> x.pass(bad), NONE);
        }
        Check.of("Promise 18: 'for n (0 to 240)'");
        for (int n : new int[] {-1, 241, LEAST, MOST}) {
            refused("way(0, 1, " + n + ")", x -> x.way(0, 1, n), NONE);
            refused("spare(0, 1, " + n + ")", x -> x.spare(0, 1, n), NONE);
        }
        Check.of("Promises 18, 21: 'none so short', 'not by all'");
        refused("way(2, 0, 240)", x -> x.way(2, 0, 240), NONE);
        refused("spare(2, 0, 240)", x -> x.spare(2, 0, 240), NONE);
        Check.of("Promise 28: 'NONE: they are alike'");
        for (int l = 0; l < 3; l++) {
            int land = l;
            refused("part(" + l + ", " + l + ")", x -> x.part(land, land), NONE);
        }
        Check.of("Promises 19, 24, 27, 32: 'NONE: none such'");
        for (int k : new int[] {-1, 40, LEAST, MOST}) {
            refused("wayAt(" + k + ")", x -> x.wayAt(k), NONE);
            refused("madeAt(" + k + ")", x -> x.madeAt(k), NONE);
            refused("caravanAt(" + k + ")", x -> x.caravanAt(k), NONE);
            refused("byteAt(" + k + ")", x -> x.byteAt(k), NONE);
        }
    }

    private static void drawsRefused() {
        Check.of("Promise 33: 'n (1 to 60)', 'NONE: not as told'");
        for (int n : new int[] {0, 61, -1, LEAST, MOST}) {
            refused("drawn(" + n + ", 1)", x -> x.drawn(n, 1), NONE);
        }
        Check.of("Promise 34: 'n (1 to 30) seeds', 'NONE: no such ones'");
        for (int n : new int[] {0, 31, -1, LEAST, MOST}) {
            refused("odds(0, " + n + ", 1)", x -> x.odds(0, n, 1), NONE);
        }
        for (int p : new int[] {-1, 3, 6, LEAST, MOST}) {
            refused("odds(" + p + ", 1, 1)", x -> x.odds(p, 1, 1), NONE);
        }
        Check.of("Promise 33: 'NONE: .. no LANDS'");
        InchBorders x = new InchBorders();
        Check.due("a new object", x.drawn(1, 1), NONE);
        Check.due("60", x.drawn(60, 1), NONE);
        Check.due("no DAY went", x.now(0), 0);
        x = Check.on("land a 0 0;");
        Check.due("one LAND, nobody", x.drawn(60, 1), 60);
    }

    private static void placesRefused() {
        Check.of("Promises 39, 40: 'in place k (0, 1)', 'false: no such one'");
        for (int k : new int[] {-1, 2, 32, 33, LEAST, MOST}) {
            refused("image(" + k + ")", x -> x.image(k) ? 1 : 0, 0);
            refused("restore(" + k + ")", x -> x.restore(k) ? 1 : 0, 0);
        }
        Check.of("Promise 40: 'or nothing is kept there'");
        refused("restore(1)", x -> x.restore(1) ? 1 : 0, 0);
        Check.of("Promise 35: '-1000: another lives (the tape stays)', promise 5: 'leaves it'");
        for (int lives : new int[] {-1, 2, -1000, 256, 257, LEAST, MOST}) {
            refused("book(" + lives + ")", x -> x.book(lives), -1000);
        }
        Check.of("Promise 2: a feed that would be too much");
        InchBorders x = rich();
        for (int k = 0; k < 46; k++) {
            x.feed(0, 0, 0, 0, 0);
        }
        String before = all(x);
        Check.due("a feed too much", x.feed(0, 0, 0, 0, 0), NONE);
        Check.due("leaves all", all(x), before);
        Check.of("Promise 3: an end that is refused");
        refused("end(21)", y -> y.end(21) ? 1 : 0, 0);
        refused("end(-1)", y -> y.end(-1) ? 1 : 0, 0);
        Check.of("Promise 38: 'NONE: .. none such'");
        for (int k : new int[] {-2, 2, 3, 6, LEAST, MOST}) {
            refused("said(" + k + ")", y -> y.said(k), NONE);
        }
    }

    /** A text that is refused leaves all but the tape, which is empty then, and the kind of the FAULT. */
    private static void textRefused(String what, Call call, long due, int fault) {
        InchBorders x = rich();
        String before = all(x);
        x.end(0);
        Check.due(what, call.on(x), due);
        Check.due(what + " leaves all but tape and FAULT", all(x).replaceAll("fault .*", ""), before.replaceAll("fault .*", ""));
        Check.due(what + ": the tape is empty", x.count(3), 0);
        Check.due(what + ": the FAULT", x.fault(), fault);
        Check.due(what + " leaves what can be undone", x.undo(), 3);
        Check.due(what + " leaves what is kept", x.restore(0), true);
        Check.due(what + " keeps nothing", x.restore(1), false);
    }

    private static void textsRefused() {
        Check.of("Promise 4: 'The tape (empty then, here and below)', '-1 less the place of a FAULT: it stays'");
        textRefused("a MAP", x -> Check.map(x, ";"), -1, 1);
        textRefused("a MAP", x -> Check.map(x, "land a 0 0"), -11, 1);
        textRefused("a MAP", x -> Check.map(x, "land a 0 0;land b 0 99;"), -21, 2);
        textRefused("a MAP", x -> Check.map(x, "land aa 0 0;land aa 0 9;"), -18, 3);
        Check.of("Promise 23: 'NONE: not as told'");
        textRefused("one byte", x -> made(x, new byte[] {0}), NONE, 2);
        textRefused("no byte", x -> made(x, new byte[] {}), NONE, 2);
        textRefused("three bytes", x -> made(x, new byte[] {0, 9, 0}), NONE, 2);
        textRefused("twenty bytes", x -> made(x, new byte[20]), NONE, 2);
        textRefused("no such PERSON", x -> made(x, new byte[] {3, 9}), NONE, 2);
        textRefused("no such PERSON", x -> made(x, new byte[] {-1, 9}), NONE, 2);
        Check.of("Promise 23: 0 rows, promise 24: 'by the latest made() above 0'");
        textRefused("so long nobody is", x -> made(x, new byte[] {0, (byte) 241}), 0, 2);
        textRefused("so long nobody is", x -> made(x, new byte[] {0, 0}), 0, 2);
        textRefused("so long he can't be", x -> made(x, new byte[] {0, (byte) 240}), 0, 2);
        Check.of("Promise 35: '-2 less the place of a FAULT'");
        for (int lives = 0; lives < 2; lives++) {
            int how = lives;
            textRefused("a BOOK", x -> Check.book(x, ";", how), -2, 1);
            textRefused("a BOOK", x -> Check.book(x, "day 1;day 61;", how), -12, 2);
            textRefused("a BOOK", x -> Check.book(x, "day 1;zz crosses aa;", how), -8, 3);
        }
        Check.of("Promise 37: '-1 less the place of a FAULT: it stays'");
        textRefused("a SENTENCE", x -> Check.sentence(x, ""), -1, 1);
        textRefused("a SENTENCE", x -> Check.sentence(x, "home in"), -6, 1);
        textRefused("a SENTENCE", x -> Check.sentence(x, "in zz"), -4, 3);
        textRefused("a SENTENCE", x -> Check.sentence(x, "not not not not not not not not home"), -33, 4);
    }

    private static long made(InchBorders x, byte[] tape) {
        Check.tape(x, tape);
        return x.made();
    }

    private static void whyNotChangesNothing() {
        Check.of("Promises 10 to 15: 'or why not'");
        // ann is in bb, 50 long by two DAYS and bb's 2; ROAD 2 is closed; treaties aa cc, bb aa.
        refused("cross(0, 1)", x -> x.cross(0, 1), 1);
        refused("cross(2, 0)", x -> x.cross(2, 0), 2);
        refused("pact(1, 1)", x -> x.pact(1, 1), 1);
        refused("pact(1, 0)", x -> x.pact(1, 0), 2);
        refused("pact(0, 2)", x -> x.pact(0, 2), 2);
        refused("breaks(2, 0)", x -> x.breaks(2, 0), 1);
        refused("breaks(1, 1)", x -> x.breaks(1, 1), 1);
        refused("close(3)", x -> x.close(3), 1);
        refused("close(11)", x -> x.close(11), 1);
        refused("close(2)", x -> x.close(2), 2);
        refused("open(3)", x -> x.open(3), 1);
        refused("open(11)", x -> x.open(11), 1);
        refused("open(0)", x -> x.open(0), 2);
        refused("lend(1, 1, 1)", x -> x.lend(1, 1, 1), 1);
        refused("lend(1, 0, 99)", x -> x.lend(1, 0, 99), 2);
        Check.of("Promises 18 to 34: what is asked changes nothing but what it tells");
        refused("round(0)", x -> x.round(0), 48);
        refused("rests()", x -> x.rests(), 10);
        refused("odds(0, 30, 5)", x -> x.odds(0, 30, 5) >= 0 ? 1 : 0, 1);
    }

    private static void amounts() {
        Check.of("Promise 16: 'n (1 to 60) DAYS go by: how many did'");
        InchBorders x = Check.on(Check.THREE);
        Check.due("1", x.days(1), 1);
        Check.due("60", x.days(60), 60);
        Check.due("61 went", x.now(0), 61);
        Check.of("Promise 33: 'n (1 to 60) DAYS DRAWN'");
        Check.due("1", x.drawn(1, 7), 1);
        Check.due("60", x.drawn(60, 7), 60);
        Check.due("122 went", x.now(0), 122);
        Check.of("Promise 15: 'n (1 to 99)'");
        x = Check.on("land a 0 0;land b 0 0;store a 99;store b 99;");
        Check.due("1", x.lend(0, 1, 1), 0);
        Check.due("99", x.lend(1, 0, 99), 0);
        Check.due("197 and 1", x.land(0, 2) * 1000 + x.land(1, 2), 197001);
        Check.of("Promise 34: 'n (1 to 30) seeds x, x and 1, ..'");
        x = Check.on(Check.THREE);
        int sum = 0;
        for (int k = 0; k < 30; k++) {
            int one = x.odds(0, 1, MOST - 3 + k);
            Check.due("one seed", one == 0 || one == 1, true);
            sum += one;
            Check.due("so many seeds from x on", x.odds(0, k + 1, MOST - 3), sum);
        }
        Check.due("not all seeds are like", sum > 0 && sum < 30, true);
        Check.of("Promise 34: 'longer than now behind 20 DAYS DRAWN from now on'");
        x = Check.on("land a 0 0;store a 20;person p a 9;person q a 240;");
        Check.due("he grows", x.odds(0, 30, 1), 30);
        Check.due("240 is not longer than 240", x.odds(1, 30, 1), 0);
        for (int k = 0; k < 6; k++) {
            x.days(60);
        }
        x.undo();
        Check.due("nothing is left in the store", x.odds(0, 30, 1), 0);
        x = Check.on("land a 20 0;land b 20 0;store a 0;road a b 0 240;person p a 41;person q b 41;");
        x.cross(1, 0);
        x.cross(1, 1);
        // q is as long as the 0 that b gives: his 20 lie in a's store, so p grows, q does not.
        Check.due("q is 21", x.person(1, 2), 21);
        Check.due("no seed makes q longer", x.odds(1, 30, 1), 0);
        Check.of("Promise 34: fewer than 20 DAYS are left");
        x = Check.on("land a 0 0;land b 0 0;store a 99;road a b 0 240;person p a 9;");
        x.cross(0, 1);
        for (int k = 0; k < 7; k++) {
            x.days(60);
        }
        x.cross(0, 0);
        Check.due("DAY 400", x.odds(0, 30, 1), 0);
        Check.due("DAY 400 stays", x.now(0), 400);
        x = Check.on("land a 0 0;store a 99;person p a 1;person q a 200;");
        for (int k = 0; k < 6; k++) {
            x.days(60);
        }
        x.days(39);
        Check.due("nothing is left in the store", x.land(0, 2), 0);
        Check.due("DAY 399, nobody grows", x.odds(0, 30, 1), 0);
        x = Check.on("land a 0 0;land b 0 0;store b 1;person p a 1;");
        for (int k = 0; k < 6; k++) {
            x.days(60);
        }
        x.days(39);
        x.lend(1, 0, 1);
        Check.due("DAY 399, he grows on the one that is left", x.odds(0, 30, 1), 30);
        Check.due("DAY 399 stays", x.now(0), 399);
    }

    private static void aheadOfAny() {
        Check.of("Promises 19, 22, 24, 25, 27, 29, 32, 36, 38: 'ahead of any'");
        InchBorders x = Check.on("land a 0 0;land b 0 0;person p a 9;");
        x.way(0, 1, 0);
        x.spare(0, 1, 0);
        Check.made(x, 0, 9);
        x.caravan(2);
        x.part(0, 0);
        x.pass(1);
        Check.book(x, "day 61;", 1);
        x.book(2);
        Check.sentence(x, "?");
        Check.due("wayAt behind NONE", x.wayAt(0), NONE);
        Check.due("spared behind NONE", x.spared(), NONE);
        Check.due("madeAt behind 0", x.madeAt(0), NONE);
        Check.due("likely behind 0", x.likely(), NONE);
        Check.due("caravanAt behind NONE", x.caravanAt(0), NONE);
        Check.due("parting behind NONE", x.parting(), NONE);
        Check.due("byteAt behind NONE", x.byteAt(0), NONE);
        for (int k = 0; k < 4; k++) {
            Check.due("told behind a FAULT and -1000", x.told(k), NONE);
        }
        Check.due("said behind a FAULT", x.said(NONE), NONE);
        Check.due("said behind a FAULT", x.said(0), NONE);
        Check.of("Promise 5: '0 without one and ahead of any'");
        Check.due("ahead of any", new InchBorders().fault(), 0);
    }

    private static void toldLast() {
        Check.of("Promise 19: 'by the latest way() that was not NONE'");
        InchBorders x = Check.on(Check.THREE);
        x.way(0, 1, 49);
        Check.due("three", Check.wayRow(x), "201");
        x.way(0, 0, 240);
        Check.due("NONE leaves it", Check.wayRow(x), "201");
        x.spare(1, 0, 0);
        x.round(0);
        Check.made(x, 1, 18);
        Check.due("other searches leave it", Check.wayRow(x), "201");
        x.way(0, 2, 0);
        Check.due("a shorter one", Check.wayRow(x), "2");
        x.way(0, 0, 0);
        Check.due("one of 0 CROSSINGS", Check.wayRow(x), "");
        Check.of("Promises 22, 24, 25: 'by the latest ..'");
        x.spare(0, 1, 52);
        Check.made(x, 0, 50);
        int likely = x.likely();
        x.way(1, 2, 0);
        x.round(1);
        x.spare(0, 1, 53);
        Check.due("spared", x.spared(), 2);
        Check.due("madeAt", Check.madeRow(x), "2");
        Check.due("likely", x.likely(), likely);
        x.spare(0, 1, 0);
        Check.due("a 0 is not NONE", x.spared(), 0);
        Check.of("Promises 27, 29, 32: 'by the latest ..'");
        x.caravan(1);
        x.caravan(-1);
        Check.due("caravanAt", Check.caravanRow(x), "02");
        x.part(0, 1);
        x.part(1, 1);
        Check.due("parting", x.parting(), 3);
        x.pass(0);
        x.pass(3);
        Check.due("byteAt", x.byteAt(0), 'a');
        x.close(0);
        x.close(1);
        x.close(2);
        x.caravan(1);
        x.part(0, 1);
        Check.due("an empty order is not NONE", x.caravanAt(0), NONE);
        Check.due("no ROADS are not NONE", x.parting(), 0);
        Check.of("Promise 5: 'of the latest map(), book() or sentence()'");
        Check.map(x, "land a 0 21;");
        Check.due("of a MAP", x.fault(), 2);
        x.book(-1);
        Check.due("a book() of -1000 leaves it", x.fault(), 2);
        Check.sentence(x, "in zz");
        Check.due("of a SENTENCE", x.fault(), 3);
        Check.book(x, "?", 0);
        Check.due("of a BOOK", x.fault(), 1);
        Check.book(x, "open 0;open 0;", 0);
        Check.due("WRONG is no FAULT", x.fault(), 0);
    }

    private static void undoEight() {
        Check.of("Promise 17: 'how many more can be (8 at most are kept); NONE: none is'");
        for (int acts = 0; acts < 20; acts++) {
            InchBorders x = Check.on(Check.THREE);
            for (int k = 0; k < acts; k++) {
                x.days(1);
            }
            int kept = Math.min(acts, 8);
            for (int k = 1; k <= kept; k++) {
                Check.due("undo " + k + " of " + acts, x.undo(), kept - k);
                Check.due("the DAY behind undo " + k + " of " + acts, x.now(0), acts - k);
            }
            Check.due("one more of " + acts, x.undo(), NONE);
            Check.due("it changes nothing", x.now(0), acts - kept);
            x.days(1);
            Check.due("acts go on behind " + acts, x.undo(), 0);
        }
        InchBorders x = Check.on(Check.THREE);
        for (int k = 0; k < 30; k++) {
            x.days(1);
            x.days(1);
            Check.due("back and forth", x.undo(), Math.min(k + 1, 7));
        }
        Check.due("30 DAYS", x.now(0), 30);
    }

    private static void undoOf(String what, Call act) {
        InchBorders x = Check.on(Check.THREE);
        x.cross(0, 1);
        x.close(1);
        String before = Check.sight(x);
        act.on(x);
        String behind = Check.sight(x);
        Check.due(what + " changes something", behind.equals(before), false);
        Check.due(what + " is undone", x.undo(), 2);
        Check.due(what + " is undone", Check.sight(x), before);
    }

    private static void undoOfEach() {
        Check.of("Promise 17: 'The latest of cross(), pact(), breaks(), close(), open(), lend() that was done, days() above"
            + " 0, drawn() above 0, a BOOK of which some LINE was lived'");
        undoOf("cross", x -> x.cross(0, 0));
        undoOf("pact", x -> x.pact(1, 0));
        undoOf("breaks", x -> x.breaks(0, 2));
        undoOf("close", x -> x.close(0));
        undoOf("open", x -> x.open(1));
        undoOf("lend", x -> x.lend(1, 0, 3));
        undoOf("days", x -> x.days(60));
        undoOf("drawn", x -> x.drawn(60, 5));
        undoOf("a BOOK", x -> Check.book(x, "open 1;day 3;lend bb aa 1;", 1));
        undoOf("a BOOK that is WRONG", x -> Check.book(x, "open 1;day 3;open 1;day 9;", 1));
    }

    private static void undoOfNone() {
        Check.of("Promise 17: what was not done is not undone");
        InchBorders x = Check.on(Check.THREE);
        x.cross(0, 0);
        x.pact(0, 2);
        x.breaks(0, 1);
        x.close(11);
        x.open(0);
        x.lend(0, 1, 99);
        x.days(0);
        x.drawn(0, 1);
        Check.book(x, "", 1);
        Check.book(x, "open 0;day 1;", 1);
        Check.book(x, "day 1;", 0);
        Check.book(x, "day 1;day 0;", 1);
        Check.tape(x, "day 1;");
        x.book(2);
        Check.sentence(x, "home");
        x.image(0);
        Check.due("none is", x.undo(), NONE);
        for (int k = 0; k < 7; k++) {
            x.days(60);
        }
        Check.due("on DAY 400 no DAY goes", x.days(60) + x.drawn(60, 1), 0);
        Check.due("seven were done", x.undo(), 6);
        Check.due("the latest were 40 DAYS", x.now(0), 360);
    }

    private static void books() {
        Check.of("Promise 35: 'it is judged, all staying as it is (lives 0)'");
        String text = "ann crosses bb;day 2;close 0;close 0;day 5;";
        refused("a BOOK judged", x -> {
            x.end(0);
            Check.book(x, "day 3;open 2;open 2;", 0);
            Check.map(x, "land a 21 0;");
            return x.feed(1, 2, 3, 4, 5);
        }, 20);
        Check.of("Promise 35: 'lived as far as it is not WRONG (1): the LINE that is WRONG'");
        InchBorders x = Check.on(Check.THREE);
        Check.due("judged", Check.book(x, text, 0), 3);
        Check.due("the DAY stays", x.now(0), 0);
        Check.due("lived", Check.book(x, text, 1), 3);
        Check.due("two DAYS", x.now(0), 2);
        Check.due("the ROAD", x.now(4), 1);
        Check.due("ann", x.person(0, 1), 1);
        Check.of("Promise 36: '0 why it was WRONG .., 1 LINES that are not, 2 the DAY then, 3 all lengths then'");
        Check.due("why", x.told(0), 32);
        Check.due("LINES", x.told(1), 3);
        Check.due("the DAY", x.told(2), 2);
        Check.due("lengths", x.told(3), x.now(1));
        x.days(3);
        Check.due("the DAY then stays told", x.told(2), 2);
        Check.of("Promise 36: '0: it was not'");
        Check.due("an empty BOOK", Check.book(x, "", 1), NONE);
        Check.due("why", x.told(0), 0);
        Check.due("LINES", x.told(1), 0);
        Check.due("the DAY", x.told(2), 5);
        Check.due("the first LINE", Check.book(x, "close 0;", 1), 0);
        Check.due("why", x.told(0), 32);
        Check.due("LINES", x.told(1), 0);
        StringBuilder forty = new StringBuilder();
        for (int k = 0; k < 39; k++) {
            forty.append("day 1;");
        }
        Check.due("the 40th LINE", Check.book(x, forty + "close 0;", 1), 39);
        Check.due("LINES", x.told(1), 39);
        Check.due("39 DAYS went", x.now(0), 44);
    }

    private static void whatIsSaid() {
        Check.of("Promise 38: 'how many (k NONE), or the k-th. NONE: there is no SENTENCE, none such'");
        InchBorders x = Check.on("land a 0 0;land b 0 0;road a b 0 9;person p a 1;person q a 2;person r b 3;person s a 4;"
            + "person t b 5;person u a 6;");
        Check.due("no SENTENCE", x.said(NONE), NONE);
        Check.due("no SENTENCE", x.said(0), NONE);
        Check.sentence(x, "number < 999");
        Check.due("all six", x.said(NONE), 6);
        for (int k = 0; k < 6; k++) {
            Check.due("the " + k + "-th", x.said(k), k);
        }
        Check.due("no seventh", x.said(6), NONE);
        Check.sentence(x, "of b or number = 5");
        Check.due("three", x.said(NONE), 3);
        Check.due("three", x.said(0) * 100 + x.said(1) * 10 + x.said(2), 245);
        Check.due("no fourth", x.said(3), NONE);
        Check.sentence(x, "not number < 999");
        Check.due("nobody", x.said(NONE), 0);
        Check.due("nobody", x.said(0), NONE);
        Check.of("SENTENCE: '<', '=', '>' at the NUMBER itself");
        String[] texts = {"length < 3", "length = 3", "length > 3", "number < 0", "number > 5", "number = 0", "crossed < 1",
            "crossed = 0", "taken > 0", "taken < 1", "length < 1", "length > 6", "length = 000"};
        int[] dues = {2, 1, 3, 0, 0, 1, 6, 6, 0, 6, 0, 0, 0};
        for (int k = 0; k < texts.length; k++) {
            Check.sentence(x, texts[k]);
            Check.due(texts[k], x.said(NONE), dues[k]);
        }
        Check.of("Promise 37: 'how many ONES (each not, bracket and other one)'");
        Check.due("a ONE", Check.sentence(x, "stuck"), 1);
        Check.due("a not", Check.sentence(x, "not stuck"), 2);
        Check.due("a bracket", Check.sentence(x, "(stuck)"), 2);
        Check.due("'free' of his own HOME needs a TREATY", Check.sentence(x, "free a"), 1);
        Check.due("there can be none", x.said(NONE), 0);
    }

    private static void images() {
        Check.of("Promise 39: 'MAP, all that is so and the SENTENCE are kept in place k (0, 1)'");
        InchBorders x = rich();
        String before = Check.sight(x);
        Check.due("image(1)", x.image(1), true);
        Check.due("an image leaves what can be undone", x.undo(), 3);
        Check.map(x, "");
        Check.due("no LANDS", x.count(0), 0);
        Check.due("restore(1)", x.restore(1), true);
        Check.due("all as kept", Check.sight(x), before);
        Check.due("the SENTENCE too", x.said(NONE), 2);
        Check.of("Promise 40: '(the tape, and what other calls told last, stays; nothing can be undone)'");
        Check.due("nothing can be undone", x.undo(), NONE);
        x = rich();
        String told = lastTold(x) + x.fault() + x.count(3);
        Check.due("restore(0)", x.restore(0), true);
        Check.due("what was told stays", lastTold(x) + x.fault() + x.count(3), told);
        Check.due("the DAY is as kept", x.now(0), 2);
        Check.due("without a SENTENCE, as kept", x.said(NONE), NONE);
        Check.due("nothing can be undone", x.undo(), NONE);
        x.days(1);
        Check.due("but what comes behind", x.undo(), 0);
        Check.due("it is kept still", x.restore(0), true);
        Check.due("each place by itself", x.restore(1), false);
        x.days(5);
        x.image(1);
        x.days(5);
        x.image(0);
        x.restore(1);
        Check.due("place 1", x.now(0), 7);
        x.restore(0);
        Check.due("place 0, kept again", x.now(0), 12);
        Check.of("Promise 40: what is kept is not changed by what comes behind");
        x.cross(0, 1);
        x.drawn(30, 4);
        x.pact(2, 1);
        x.lend(1, 0, 1);
        Check.sentence(x, "home");
        x.restore(0);
        Check.due("the DAY", x.now(0), 12);
        Check.due("no SENTENCE", x.said(NONE), NONE);
        Check.due("where ann is", x.person(0, 1), 0);
        Check.due("TREATIES", x.now(7), 1);
    }

    private static void freshMap() {
        Check.of("'A new MAP: DAY 0, all ROADS are open, no SENTENCE'");
        InchBorders x = rich();
        x.end(0);
        String told = lastTold(x);
        Check.due("a new MAP", Check.map(x, Check.THREE), 12);
        Check.due("all is as told", Check.sight(x), Check.sight(Check.on(Check.THREE)));
        Check.due("no SENTENCE", x.said(NONE), NONE);
        Check.due("what other calls told stays", lastTold(x), told);
        Check.due("what was kept stays", x.restore(0), true);
        Check.due("DAY 2", x.now(0), 2);
        Check.of("Promise 4: 'how many LINES'");
        Check.due("none", Check.map(x, ""), 0);
        Check.due("no LANDS any more", x.count(0), 0);
        Check.due("one", Check.map(x, "land a 0 0;"), 1);
        Check.due("no FAULT", x.fault(), 0);
    }

    private static void freshBehindTrials() {
        Check.of("'A new MAP: DAY 0, all ROADS are open, no SENTENCE', whatever was tried ahead of it");
        String small = "land k 1 1;land m 1 1;road k m 0 240;person z m 9;";
        Call[] trials = {x -> x.rests(), x -> x.odds(0, 2, 2), x -> Check.book(x, "day 1;pact cc bb;", 0),
            x -> Check.book(x, "day 1;pact cc bb;", 1), x -> Check.map(x, "land q 1 1;store q 9;person w q 21;road q q 0 1;"),
            x -> x.drawn(5, 5), x -> x.undo(), x -> x.restore(0) ? 1 : 0};
        for (int k = 0; k < trials.length; k++) {
            InchBorders x = Check.on("land aa 3 5;land bb 2 4;land cc 4 1;store aa 2;store bb 10;road aa bb 0 240;"
                + "treaty aa cc;treaty aa bb;person ann bb 50;");
            x.cross(0, 0);
            x.cross(0, 1);
            x.close(0);
            x.days(4);
            Check.sentence(x, "home");
            x.image(0);
            trials[k].on(x);
            Check.due("a new MAP behind trial " + k, Check.map(x, small), 4);
            Check.due("all is as told behind trial " + k, Check.sight(x), Check.sight(Check.on(small)));
            Check.due("no SENTENCE behind trial " + k, x.said(NONE), NONE);
        }
    }

    private static void fullMap() {
        Check.of("'7 LANDS, 12 ROADS, 6 PERSONS at most': all calls on a full MAP");
        InchBorders x = Check.on("land a 1 1;land b 1 1;land c 1 1;land d 1 1;land e 1 1;land f 1 1;land g 1 1;store a 1;"
            + "store g 2;road g f 0 240;road g e 0 240;road g d 0 240;road g c 0 240;road g b 0 240;road g a 0 240;"
            + "road a b 0 240;road b c 0 240;road c d 0 240;road d e 0 240;road e f 0 240;road f a 0 240;treaty g a;"
            + "treaty a g;person p a 30;person q b 30;person r c 30;person s d 30;person t e 30;person u g 30;");
        Check.due("whither u", x.person(5, 6), 63);
        Check.due("all stores", x.now(2), 3);
        Check.due("all lengths", x.now(1), 180);
        Check.due("at HOME", x.now(5), 63);
        Check.due("stuck", x.now(6), 0);
        Check.due("a LAND more", Check.book(x, "u crosses h;", 1), -12);
        Check.due("a PERSON more", Check.book(x, "v crosses a;", 1), -2);
        Check.due("u crosses", Check.book(x, "u crosses a;", 1), NONE);
        Check.due("CROSSINGS", x.now(3), 1);
        Check.due("who is in a", x.land(0, 4), 33);
        Check.due("TREATIES", x.now(7), 2);
        Check.due("whither u", x.person(5, 6), 98);
        Check.due("a way to g", x.way(5, 6, 30), 1);
        Check.due("the longest round of u", x.round(5), 32);
        Check.due("SPARE of u", x.spare(5, 3, 32), 1);
        Check.due("SPARE of u", x.spared(), 8);
        Check.due("all go to g", x.caravan(6), 180 - 4 + 1);
        Check.due("all orders are like: the first", Check.caravanRow(x), "012345");
        Check.due("a has three ROADS", x.part(0, 6), 3);
        Check.due("a has three ROADS", x.parting(), 1 << 5 | 1 << 6 | 1 << 11);
        Check.due("closed", x.close(11), 0);
        Check.due("closed", x.road(11, 4), 1);
        Check.due("said of all six", Check.sentence(x, "length > 0") + 10 * x.said(NONE) + 100 * x.said(5), 561);
        Check.due("drawn", x.drawn(60, 9), 60);
        Check.due("nothing is lost", x.now(1) + x.now(2), 183);
        Check.due("undone", x.undo(), 2);
    }

    private static void oddsDays() {
        Check.of("Promise 34: '20 DAYS DRAWN', neither 19 nor 21");
        InchBorders x = Check.on(Check.THREE);
        int[] longer = {0, 0, 0};
        x.image(0);
        for (int seed = 0; seed < 30; seed++) {
            for (int k = 0; k < 3; k++) {
                x.drawn(19 + k, seed);
                longer[k] += x.person(0, 2) > 50 ? 1 : 0;
                x.restore(0);
            }
        }
        Check.due("19 and 21 would tell another number", longer[1] != longer[0] && longer[1] != longer[2], true);
        Check.due("20 DAYS", x.odds(0, 30, 0), longer[1]);
    }

    private static void manyCalls() {
        Check.of("'An object is used for at most 512 calls'");
        InchBorders x = new InchBorders();
        Check.map(x, Check.THREE);
        for (int k = 0; k < 160; k++) {
            x.feed(0x6e6f7420, 0x686f6d65, 0x20202020, 0x20202020, 0x20202020);
            Check.due("a SENTENCE", x.sentence(), 2);
            Check.due("of nobody", x.said(NONE), 0);
        }
    }
}
