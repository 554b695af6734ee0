/** Each sentence of sections 2 and 3 that names an edge, by itself (promises 10 to 16, 18 to 34 do what they tell). */
public final class RuleEdgesTest {
    private static final int NONE = InchBorders.NONE;
    private static final String LINE = "land a 0 0;land b 0 0;land c 0 0;land d 0 0;land e 0 0;land f 0 0;land g 0 0;"
        + "road a b 0 9;road b c 0 9;road c d 0 9;road d e 0 9;road e f 0 9;road f g 0 9;person p a 5;";

    public static void main(String[] args) {
        whyNotCross();
        leastWhy();
        gifts();
        tolls();
        acts();
        dayGrowth();
        dayEnd();
        ways();
        landNought();
        rounds();
        spares();
        mades();
        likelies();
        caravans();
        parts();
        rests();
        passes();
        draws();
        Check.end();
    }

    private static InchBorders pair(String road, int length, int take) {
        return Check.on("land a 0 0;land b " + take + " 0;" + road + "person p a " + length + ";");
    }

    private static void crossing(String what, String road, int length, int take, int why) {
        InchBorders x = pair(road, length, take);
        Check.due(what + ": LANDS to which he could", x.person(0, 6), why == 0 ? 2 : 0);
        Check.due(what + ": stuck", x.now(6), why == 0 ? 0 : 1);
        Check.due(what, x.cross(0, 1), why);
        Check.due(what + ": where he is", x.person(0, 1), why == 0 ? 1 : 0);
        Check.due(what + ": how long", x.person(0, 2), why == 0 ? length - take : length);
        Check.due(what + ": how often", x.person(0, 5), why == 0 ? 1 : 0);
        Check.due(what + ": to be undone", x.undo(), why == 0 ? 0 : NONE);
    }

    private static void whyNotCross() {
        Check.of("'1 no ROAD leads there from where he is'");
        crossing("none at all", "", 9, 0, 1);
        crossing("one", "road a b 0 240;", 9, 0, 0);
        crossing("as told the other way", "road b a 0 240;", 9, 0, 0);
        InchBorders x = pair("road a b 0 240;", 9, 0);
        Check.due("where he is", x.cross(0, 0), 1);
        Check.of("'3 he is shorter than its LOW'");
        crossing("shorter by one", "road a b 10 240;", 9, 0, 3);
        crossing("just so long", "road a b 10 240;", 10, 0, 0);
        crossing("LOW 240", "road a b 240 240;", 239, 0, 3);
        crossing("LOW 240", "road a b 240 240;", 240, 0, 0);
        Check.of("'4 longer than its HIGH'");
        crossing("longer by one", "road a b 0 10;", 11, 0, 4);
        crossing("just so long", "road a b 0 10;", 10, 0, 0);
        crossing("HIGH 0", "road a b 0 0;", 1, 0, 4);
        crossing("LOW and HIGH alike", "road a b 7 7;", 7, 0, 0);
        crossing("LOW and HIGH alike", "road a b 7 7;", 8, 0, 4);
        crossing("LOW and HIGH alike", "road a b 7 7;", 6, 0, 3);
        Check.of("'5 that LAND would TAKE as much as he is long, or more'");
        crossing("less by one", "road a b 0 240;", 10, 9, 0);
        crossing("as much", "road a b 0 240;", 10, 10, 5);
        crossing("more by one", "road a b 0 240;", 10, 11, 5);
        crossing("one inch, nothing taken", "road a b 0 240;", 1, 0, 0);
        crossing("one inch, one taken", "road a b 0 240;", 1, 1, 5);
        crossing("20 of 20", "road a b 0 240;", 20, 20, 5);
        crossing("20 of 21", "road a b 0 240;", 21, 20, 0);
        Check.of("'why not, the least': what is taken is no matter of the stile");
        crossing("LOW is of how long he is ahead", "road a b 10 240;", 10, 9, 0);
        crossing("HIGH is of how long he is ahead", "road a b 0 10;", 11, 9, 4);
    }

    private static void leastWhy() {
        Check.of("CROSS: 'why not, the least'");
        crossing("too short and all taken", "road a b 10 240;", 9, 20, 3);
        crossing("too long and all taken", "road a b 0 8;", 9, 20, 4);
        InchBorders x = pair("road a b 10 240;", 9, 20);
        x.close(0);
        Check.due("closed, too short and all taken", x.cross(0, 1), 2);
        x = pair("road a b 0 8;", 9, 20);
        x.close(0);
        Check.due("closed, too long and all taken", x.cross(0, 1), 2);
        x = pair("road a b 0 240;", 9, 20);
        x.close(0);
        Check.due("closed and all taken", x.cross(0, 1), 2);
        x.open(0);
        Check.due("open, all taken", x.cross(0, 1), 5);
        Check.of("PACT, OPEN, CLOSE, LEND: the least");
        x = Check.on("land a 0 0;land b 0 0;");
        Check.due("alike", x.pact(0, 0), 1);
        Check.due("alike, and less in it", x.lend(0, 0, 99), 1);
        Check.due("none, of that number", x.close(0), 1);
        Check.due("none, of that number", x.open(0), 1);
    }

    /** Home to a LAND that GIVES so much, out of so large a store, to one so long. */
    private static void gift(String what, int give, int store, int length, int due) {
        InchBorders x = Check.on("land a 20 " + give + ";land b 0 0;store a " + store + ";road a b 0 240;person p a "
            + length + ";");
        x.cross(0, 1);
        Check.due(what, x.cross(0, 0), 0);
        Check.due(what + ": given", x.person(0, 4), due);
        Check.due(what + ": how long", x.person(0, 2), length + due);
        Check.due(what + ": out of the store", x.land(0, 2), store - due);
        Check.due(what + ": nothing is taken", x.person(0, 3), 0);
    }

    private static void gifts() {
        Check.of("'it GIVES to him: as much as it is told, as there is in its store, and as he lacks to 240'");
        gift("as told is least", 5, 6, 200, 5);
        gift("the store is least", 6, 5, 200, 5);
        gift("what he lacks is least", 6, 6, 235, 5);
        gift("all alike", 5, 5, 235, 5);
        gift("as told by one", 5, 6, 234, 5);
        gift("nothing told", 0, 9, 200, 0);
        gift("nothing in the store", 9, 0, 200, 0);
        gift("he lacks nothing", 9, 9, 240, 0);
        gift("he lacks one", 9, 9, 239, 1);
        gift("one in the store", 9, 1, 200, 1);
        gift("one told", 1, 9, 200, 1);
        gift("the most", 20, 99, 220, 20);
        gift("the most, lacking one less", 20, 99, 221, 19);
        gift("the shortest", 20, 99, 1, 20);
    }

    private static void tolls() {
        Check.of("'If it is not, and no TREATY spares him there, it TAKES of him, into its store'");
        InchBorders x = Check.on("land a 0 9;land b 4 9;land c 3 0;store b 99;road a b 0 240;road b c 0 240;person p a 20;"
            + "person q c 20;treaty c b;treaty b a;");
        Check.due("p to b", x.cross(0, 1), 0);
        Check.due("taken of p", x.person(0, 3), 4);
        Check.due("b GIVES to its own alone", x.person(0, 4), 0);
        Check.due("into b's store", x.land(1, 2), 103);
        Check.due("q to b", x.cross(1, 1), 0);
        Check.due("q is spared", x.person(1, 3), 0);
        Check.due("q is given nothing", x.person(1, 2), 20);
        Check.due("b's store", x.land(1, 2), 103);
        Check.due("p on to c", x.cross(0, 2), 0);
        Check.due("what was taken so far", x.person(0, 3), 7);
        Check.due("c's store", x.land(2, 2), 3);
        Check.due("what leaves is not taken back", x.now(1) + x.now(2), 139);
        x.breaks(2, 1);
        Check.due("q goes home", x.cross(1, 2), 0);
        Check.due("q to b, spared no more", x.cross(1, 1), 0);
        Check.due("taken of q", x.person(1, 3), 4);
    }

    private static void acts() {
        Check.of("'A PACT .. 2 there is that TREATY'");
        InchBorders x = Check.on("land a 0 0;land b 0 0;store a 9;road a b 0 9;treaty a b;");
        Check.due("told by the MAP", x.pact(0, 1), 2);
        Check.due("the other way there is none", x.pact(1, 0), 0);
        Check.due("now there is", x.pact(1, 0), 2);
        Check.of("'To BREAK one: 1 there is none'");
        Check.due("told by the MAP", x.breaks(0, 1), 0);
        Check.due("any more", x.breaks(0, 1), 1);
        Check.due("the other stays", x.land(1, 3), 1);
        Check.due("of like ones there is none", x.breaks(0, 0), 1);
        Check.of("'To CLOSE a ROAD: 2 it is closed' 'To OPEN it: 2 it is open'");
        Check.due("all are open at first", x.open(0), 2);
        Check.due("close", x.close(0), 0);
        Check.due("closed", x.close(0), 2);
        Check.due("open", x.open(0), 0);
        Check.due("opened", x.open(0), 2);
        Check.of("'1 there is none of that number'");
        Check.due("the number behind the last", x.close(1), 1);
        Check.due("the number behind the last", x.open(1), 1);
        Check.due("11", x.close(11), 1);
        Check.due("11", x.open(11), 1);
        Check.of("'To LEND n of a LAND's store .. 2 there is less in it'");
        Check.due("one more than there is", x.lend(0, 1, 10), 2);
        Check.due("nothing went", x.land(0, 2) * 100 + x.land(1, 2), 900);
        Check.due("all of it", x.lend(0, 1, 9), 0);
        Check.due("from store to store", x.land(0, 2) * 100 + x.land(1, 2), 9);
        Check.due("of nothing", x.lend(0, 1, 1), 2);
        Check.due("but one back", x.lend(1, 0, 1), 0);
        Check.due("from store to store", x.land(0, 2) * 100 + x.land(1, 2), 108);
    }

    private static void dayGrowth() {
        Check.of("'PERSON by PERSON who is at HOME, is less than 240 long, and whose LAND has something in its store'");
        InchBorders x = Check.on("land a 0 9;land b 0 9;store a 2;road a b 0 240;person p a 239;person q b 9;person r a 240;"
            + "person s a 1;person t a 7;");
        x.days(1);
        Check.due("p to 240", x.person(0, 2), 240);
        Check.due("q: nothing in the store", x.person(1, 2), 9);
        Check.due("r is 240 long", x.person(2, 2), 240);
        Check.due("s had the last", x.person(3, 2), 2);
        Check.due("t came too late", x.person(4, 2), 7);
        Check.due("the store", x.land(0, 2), 0);
        Check.due("growing is not given by CROSSING", x.person(0, 4), 0);
        Check.due("no CROSSING", x.now(3), 0);
        x = Check.on("land a 0 0;land b 0 0;store a 5;store b 5;road a b 0 240;person p a 9;");
        x.cross(0, 1);
        x.days(1);
        Check.due("away from HOME", x.person(0, 2), 9);
        Check.due("stores stay", x.now(2), 10);
        x.cross(0, 0);
        x.days(3);
        Check.due("1 each DAY", x.person(0, 2), 12);
        Check.due("1 each DAY", x.land(0, 2), 2);
        x.days(60);
        Check.due("as long as there is something", x.person(0, 2), 14);
    }

    private static void dayEnd() {
        Check.of("'A DAY (0 to 399; 400: all are over)'");
        InchBorders x = Check.on("land a 0 0;store a 99;person p a 1;");
        Check.due("DAY 0", x.now(0), 0);
        for (int k = 0; k < 6; k++) {
            Check.due("60", x.days(60), 60);
        }
        Check.due("39", x.days(39), 39);
        Check.due("DAY 399", x.now(0), 399);
        x.image(0);
        Check.due("of 60 one is left", x.days(60), 1);
        Check.due("DAY 400", x.now(0), 400);
        Check.due("none is left", x.days(1), 0);
        Check.due("none is left to draw", x.drawn(1, 3), 0);
        Check.due("DAY 400 stays", x.now(0), 400);
        Check.due("the one can be undone, none else", x.undo(), 7);
        Check.due("the one can be undone, none else", x.now(0), 399);
        x.restore(0);
        Check.due("of 60 one is left to draw", x.drawn(60, 3), 1);
        Check.due("DAY 400", x.now(0), 400);
        Check.due("it can be undone", x.undo(), 0);
        Check.due("a BOOK's one", Check.book(x, "day 1;", 1), NONE);
        Check.due("fewer are left", Check.book(x, "day 1;", 1), 0);
        Check.due("fewer are left", x.told(0), 61);
        Check.due("DAY 400", x.now(0), 400);
        x.restore(0);
        Check.due("a BOOK's two", Check.book(x, "day 2;", 1), 0);
        Check.due("none of the two goes", x.now(0), 399);
    }

    private static void ways() {
        Check.of("WAY: 'the fewest CROSSINGS (0 to 5)'");
        InchBorders x = Check.on(LINE);
        for (int l = 0; l < 6; l++) {
            Check.due("to LAND " + l, x.way(0, l, 5), l);
            Check.due("its row", Check.wayRow(x), "12345".substring(0, l));
        }
        Check.due("six are too many", x.way(0, 6, 5), NONE);
        x.cross(0, 1);
        Check.due("from the next five do", x.way(0, 6, 5), 5);
        Check.of("WAY: 'he is there, at least n long'");
        Check.due("just so long", x.way(0, 1, 5), 0);
        Check.due("one longer", x.way(0, 1, 6), NONE);
        Check.due("0", x.way(0, 1, 0), 0);
        x = Check.on("land a 0 7;land b 2 0;store a 99;road a b 0 240;person p a 230;");
        Check.due("by one round", x.way(0, 0, 235), 2);
        Check.due("by two rounds", x.way(0, 0, 236), 4);
        Check.due("240 at most", x.way(0, 0, 240), 4);
        Check.due("there 238 at most", x.way(0, 1, 238), 5);
        Check.due("239 is too long", x.way(0, 1, 239), NONE);
        Check.of("WAY: 'of like ones the first: LAND by LAND the least'");
        x = Check.on("land a 0 0;land b 0 0;land c 0 0;land d 0 0;land e 0 0;road e d 0 9;road e c 0 9;road d b 0 9;"
            + "road c b 0 9;road b a 0 9;road c a 0 9;person p e 5;");
        Check.due("to b over c, not d", x.way(0, 1, 0), 2);
        Check.due("to b over c, not d", Check.wayRow(x), "21");
        Check.due("to a by two, not by three", x.way(0, 0, 0), 2);
        Check.due("to a by two, not by three", Check.wayRow(x), "20");
        x.close(1);
        Check.due("c is closed", x.way(0, 0, 0), 3);
        Check.due("c is closed", Check.wayRow(x), "310");
        Check.of("WAY: 'by who alone crosses': one's own store is as it would be then");
        x = Check.on("land a 0 5;land b 3 0;store a 7;road a b 0 240;person p a 50;");
        Check.due("50 - 3 + 5", x.way(0, 0, 52), 2);
        Check.due("the 2 that are left are less than 3 taken", x.way(0, 0, 53), NONE);
    }

    private static void landNought() {
        Check.of("LAND 0 is a LAND like the others");
        InchBorders x = Check.on("land a 7 0;land b 0 0;land c 0 0;road b a 0 240;road a c 0 240;person p b 30;");
        Check.due("a TAKES on the way", x.way(0, 2, 24), NONE);
        Check.due("a TAKES on the way", x.way(0, 2, 23), 2);
        Check.due("a TAKES in a round", x.round(0), 23);
        Check.due("a TAKES in every row", Check.made(x, 0, 30), 0);
        Check.due("a itself is to spare him", x.spare(0, 2, 24), 1);
        Check.due("a itself is to spare him", x.spared(), 1);
    }

    private static void rounds() {
        Check.of("ROUND: 'behind 1 to 5 CROSSINGS'");
        InchBorders x = Check.on("land a 0 0;land b 3 0;road a b 0 240;person p a 50;");
        Check.due("0 CROSSINGS are no round", x.round(0), 47);
        x = Check.on("land a 0 0;land b 0 0;land c 0 0;land d 0 0;land e 0 0;land f 20 0;road a b 0 9;road b c 0 9;"
            + "road c d 0 9;road d e 0 9;road e a 0 9;person p b 9;");
        Check.due("there and back", x.round(0), 9);
        x = Check.on("land a 0 0;land b 0 9;land c 0 0;land d 0 0;land e 0 0;store b 99;road a b 1 9;road b c 10 20;"
            + "road c d 0 99;road d e 0 99;road e a 0 99;person p b 9;");
        x.cross(0, 0);
        Check.due("five all round: a b c d e a", x.round(0), 18);
        x = Check.on("land a 0 0;land b 0 9;land c 0 0;land d 0 0;land e 0 0;land f 0 0;store b 99;road a b 1 9;"
            + "road b c 10 20;road c d 0 99;road d e 0 99;road e f 0 99;road f a 0 99;person p b 9;");
        x.cross(0, 0);
        Check.due("six are too many, and but to f and back is left", x.round(0), 9);
        Check.of("ROUND: 'NONE: there is none'");
        x = Check.on("land a 0 0;land b 9 0;road a b 0 240;person p a 9;");
        Check.due("he can't leave", x.round(0), NONE);
        x = Check.on("land a 0 0;land b 5 0;road a b 5 240;person p a 9;");
        Check.due("he can't come back", x.round(0), NONE);
        x = Check.on("land a 0 0;person p a 9;");
        Check.due("no ROAD", x.round(0), NONE);
        Check.of("ROUND: 'back where he is now', which may be no HOME");
        x = Check.on("land a 0 4;land b 2 0;store a 50;road a b 0 240;person p a 20;");
        x.cross(0, 1);
        Check.due("18 + 4 - 2 + 4 - 2", x.round(0), 22);
    }

    private static void spares() {
        Check.of("SPARE: 'the fewest LANDS'");
        InchBorders x = Check.on("land a 0 0;land b 5 0;land c 6 0;land d 4 0;road a b 0 240;road b d 0 240;road a c 0 240;"
            + "road c d 0 240;person p a 20;");
        Check.due("none is needed", x.spare(0, 3, 11), 0);
        Check.due("none is needed", x.spared(), 0);
        Check.due("one: b or c, b is the least as bits", x.spare(0, 3, 16), 1);
        Check.due("one: b or c, b is the least as bits", x.spared(), 2);
        x.close(0);
        Check.due("one: c, as none goes over b", x.spare(0, 3, 16), 1);
        Check.due("one: c, as none goes over b", x.spared(), 4);
        x.open(0);
        Check.due("two: b d is less than c d", x.spare(0, 3, 20), 2);
        Check.due("two: b d is less than c d", x.spared(), 10);
        Check.of("SPARE: 'NONE: not by all'");
        Check.due("not by all", x.spare(0, 3, 21), NONE);
        Check.due("what was told stays", x.spared(), 10);
        Check.of("SPARE: 'besides'");
        x.pact(0, 3);
        Check.due("d spares him already", x.spare(0, 3, 20), 1);
        Check.due("d spares him already", x.spared(), 2);
        Check.due("nobody made a TREATY", x.now(7), 1);
        x = Check.on("land a 20 0;land b 0 0;road a b 0 9;person p a 5;");
        Check.due("where he is, none", x.spare(0, 0, 5), 0);
        Check.due("where he is, none", x.spared(), 0);
        Check.of("SPARE: 'such a WAY' is of 5 CROSSINGS at most, n 0 to 240");
        x = Check.on(LINE);
        Check.due("five", x.spare(0, 5, 5), 0);
        Check.due("six", x.spare(0, 6, 5), NONE);
        Check.due("n 240", x.spare(0, 0, 240), NONE);
        Check.due("n 241", x.spare(0, 0, 241), NONE);
        Check.due("n -1", x.spare(0, 0, -1), NONE);
        x = Check.on("land a 0 0;land b 9 0;land c 9 0;land d 9 0;land e 9 0;land f 9 0;road a b 0 9;road b c 0 9;"
            + "road c d 0 9;road d e 0 9;road e f 0 9;person p a 9;");
        Check.due("all five others", x.spare(0, 5, 9), 5);
        Check.due("all five others", x.spared(), 62);
    }

    private static void mades() {
        Check.of("MADE: 'rows of 1 to 4 CROSSINGS behind which he is just so long'");
        InchBorders x = Check.on(LINE);
        // From a end: b; ba bc; bab bcb bcd; baba babc bcba bcbc bcdc bcde.
        Check.due("1, 2, 3 and 6 rows", Check.made(x, 0, 5), 12);
        Check.due("one longer", Check.made(x, 0, 6), 0);
        Check.due("one shorter", Check.made(x, 0, 4), 0);
        x = Check.on("land a 0 1;land b 0 0;store a 9;road a b 0 240;person p a 9;");
        Check.due("9: b", Check.made(x, 0, 9), 1);
        Check.due("10: ba bab", Check.made(x, 0, 10), 2);
        Check.due("11: baba, and not five", Check.made(x, 0, 11), 1);
        Check.due("its four", Check.madeRow(x), "1010");
        Check.due("12 would take six", Check.made(x, 0, 12), 0);
        x.close(0);
        Check.due("0 CROSSINGS are no row", Check.made(x, 0, 9), 0);
        Check.of("MADE: 'the first: the fewest, then LAND by LAND the least'");
        x = Check.on("land a 0 0;land b 2 0;land c 1 0;land d 1 0;road a b 0 240;road a d 0 240;road a c 0 240;person p a 9;");
        Check.due("8: c d ca da", Check.made(x, 0, 8), 4);
        Check.due("c ahead of d", Check.madeRow(x), "2");
        // 7: b, ba; c or d, home, c or d: 4, each home again: 4.
        Check.due("7", Check.made(x, 0, 7), 10);
        Check.due("one is fewer than three", Check.madeRow(x), "1");
        Check.due("6", Check.made(x, 0, 6), 8);
        Check.due("bac ahead of bad, cab, dab", Check.madeRow(x), "102");
    }

    private static void likelies() {
        Check.of("LIKELY: 'most of these rows end (of like ones the first)'");
        InchBorders x = Check.on("land a 0 0;land b 1 0;land c 1 0;road c a 0 240;road c b 0 240;person p c 9;");
        // b is likelier than a only if its TAKE is counted: from c 9: a, ac, aca, acac; 8: b, bc, bca ..
        Check.due("9: a ac aca acac", Check.made(x, 0, 9), 4);
        Check.due("a and c alike: a", x.likely(), 0);
        // 8: b, bc, bca, bcac; acb, acbc.
        Check.due("8", Check.made(x, 0, 8), 6);
        Check.due("c has three: bc bcac acbc", x.likely(), 2);
        Check.due("7: bcb bcbc", Check.made(x, 0, 7), 2);
        Check.due("b and c alike: b", x.likely(), 1);
        Check.due("0 rows", Check.made(x, 0, 3), 0);
        Check.due("leave it", x.likely(), 1);
        Check.due("NONE", Check.made(x, 1, 9), NONE);
        Check.due("leaves it", x.likely(), 1);
        Check.due("leaves the row", Check.madeRow(x), "121");
    }

    private static void caravans() {
        Check.of("CARAVAN: 'of all PERSONS who could CROSS there now'");
        InchBorders x = Check.on("land a 4 5;land b 0 0;land c 0 0;road a b 5 20;person p b 4;person q b 5;person r b 20;"
            + "person s b 21;person t c 9;person u a 9;");
        Check.due("q and r", x.caravan(0), 60);
        Check.due("q and r", Check.caravanRow(x), "12");
        x.close(0);
        Check.due("nobody", x.caravan(0), 68);
        Check.due("nobody", Check.caravanRow(x), "");
        Check.of("CARAVAN: 'all PERSONS together are longest; of like ones the first'");
        x = Check.on("land a 6 5;land b 0 0;road a b 0 240;person p a 50;person q b 50;person r a 50;person s b 50;");
        x.cross(0, 1);
        x.cross(2, 1);
        // q and s bring 6 each: q p r gives 5 and 1; q p s r gives 5 and 5.
        Check.due("200 - 12 + 10", x.caravan(0), 198);
        Check.due("q p s r is the first of these", Check.caravanRow(x), "1032");
        x.pact(1, 0);
        Check.due("nobody brings anything", x.caravan(0), 200);
        Check.due("all orders are like", Check.caravanRow(x), "0123");
        x = Check.on("land a 0 0;land b 0 0;road a b 0 9;person p a 1;person q a 2;person r a 3;person s a 4;person t a 5;"
            + "person u a 6;");
        Check.due("six", x.caravan(1), 21);
        Check.due("six", Check.caravanRow(x), "012345");
        Check.due("there is no seventh", x.caravanAt(6), NONE);
        Check.of("CARAVAN: a latter one may be shorter than one ahead");
        x = Check.on("land a 5 0;land b 0 0;land c 9 0;road a b 0 99;road b c 0 99;person p b 50;person q b 50;");
        Check.due("to b nobody", x.caravan(1), 100);
        Check.due("to a both", x.caravan(0), 90);
        Check.due("to a both", Check.caravanRow(x), "01");
        Check.due("to c both", x.caravan(2), 82);
    }

    private static void parts() {
        Check.of("PART: 'the fewest open ROADS', 'of like ones the least as bits'");
        InchBorders x = Check.on(LINE);
        Check.due("any of six", x.part(0, 6), 1);
        Check.due("the first is least", x.parting(), 1);
        Check.due("any of the last three", x.part(6, 3), 1);
        Check.due("the first of them", x.parting(), 8);
        x.close(4);
        Check.due("parted", x.part(0, 6), 0);
        Check.due("parted: none", x.parting(), 0);
        x = Check.on("land a 0 0;land b 0 0;land c 0 0;land d 0 0;land e 0 0;land f 0 0;land g 0 0;road a b 0 9;road a c 0 9;"
            + "road a d 0 9;road a e 0 9;road a f 0 9;road a g 0 9;road g b 0 9;road g c 0 9;road g d 0 9;road g e 0 9;"
            + "road g f 0 9;road b c 0 9;");
        Check.due("six between a and g", x.part(0, 6), 6);
        Check.due("a's six", x.parting(), 63);
        Check.due("six from g", x.part(6, 0), 6);
        Check.due("a's six", x.parting(), 63);
        // b has ROADS 0, 6, 11.
        Check.due("b's three", x.part(1, 0), 3);
        Check.due("b's three", x.parting(), 1 | 1 << 6 | 1 << 11);
        x.close(6);
        Check.due("b has two", x.part(1, 0), 2);
        Check.due("b has two", x.parting(), 1 | 1 << 11);
        Check.of("PART: how long one is does not matter to ROADS");
        x = Check.on("land a 0 0;land b 0 0;road a b 0 0;person p a 9;");
        Check.due("an open ROAD leads, if nobody may go", x.part(0, 1), 1);
    }

    private static void rests() {
        Check.of("RESTS: 'how many DAYS go till a DAY on which nobody would grow' '(0: today)'");
        InchBorders x = Check.on("land a 0 0;land b 0 0;store a 1;store b 9;road a b 0 9;person p a 5;person q a 240;");
        Check.due("1 in the store", x.rests(), 1);
        Check.due("nothing changed", x.now(0) + x.person(0, 2) + x.land(0, 2), 6);
        x.days(1);
        Check.due("today", x.rests(), 0);
        x = Check.on("land a 0 0;store a 9;person p a 240;");
        Check.due("240 long", x.rests(), 0);
        x = Check.on("land a 0 0;store a 9;person p a 239;");
        Check.due("239 long", x.rests(), 1);
        x = Check.on("land a 0 0;store a 99;");
        Check.due("nobody is there", x.rests(), 0);
        Check.of("RESTS: 'NONE: there is none such ahead of DAY 400'");
        x = Check.on("land a 0 0;land b 0 0;store a 99;road a b 0 240;person p a 5;");
        x.cross(0, 1);
        for (int k = 0; k < 5; k++) {
            x.days(60);
        }
        x.cross(0, 0);
        Check.due("99 DAYS from 300: DAY 399", x.rests(), 99);
        x.undo();
        x.days(1);
        x.cross(0, 0);
        Check.due("99 DAYS from 301: DAY 400", x.rests(), NONE);
        x.lend(0, 1, 1);
        Check.due("98 DAYS from 301: DAY 399", x.rests(), 98);
        x.days(60);
        x.days(38);
        Check.due("DAY 399, today", x.now(0) + x.rests(), 399);
        x.lend(1, 0, 1);
        Check.due("DAY 399, and he would grow", x.rests(), NONE);
        x.days(1);
        Check.due("DAY 400: none is ahead", x.rests(), NONE);
    }

    private static void passes() {
        Check.of("PASS: 'how long he is as digits'");
        int[] lengths = {1, 9, 10, 11, 99, 100, 101, 109, 110, 199, 200, 239, 240};
        for (int length : lengths) {
            InchBorders x = Check.on("land a 0 0;person p a " + length + ";");
            String text = "p of a in a " + length;
            Check.due("bytes of " + text, x.pass(0), text.length());
            Check.due("the PASS", Check.passText(x), text);
            Check.due("none such", x.byteAt(text.length()), NONE);
        }
        InchBorders x = Check.on("land azzzzza 0 0;land b 0 0;road b azzzzza 0 240;person zaaaaaz azzzzza 240;");
        Check.due("NAMES of seven", x.pass(0), 33);
        Check.due("NAMES of seven", Check.passText(x), "zaaaaaz of azzzzza in azzzzza 240");
        x.cross(0, 1);
        Check.due("in b", x.pass(0), 27);
        Check.due("in b", Check.passText(x), "zaaaaaz of azzzzza in b 240");
    }

    private static void draws() {
        Check.of("DRAWN: 'x becomes x * 1103515245 + 12345 (an int, wrapping), the draw is (x >>> 8) % n'");
        int[] seeds = {0, 1, -1, Integer.MAX_VALUE, Integer.MIN_VALUE, 12345, -987654321};
        for (int seed : seeds) {
            InchBorders x = Check.on("land a 0 0;land b 0 0;land c 0 0;road a b 0 240;road b c 0 240;road c a 0 240;"
                + "person p a 9;");
            Check.due("a DAY", x.drawn(1, seed), 1);
            long s = seed;
            s = (int) (s * 1103515245L + 12345L);
            int closed = 0;
            if (((s & 0xffffffffL) >> 8) % 4 == 0) {
                s = (int) (s * 1103515245L + 12345L);
                closed = 1 << (int) (((s & 0xffffffffL) >> 8) % 3);
            }
            s = (int) (s * 1103515245L + 12345L);
            int drawn = (int) (((s & 0xffffffffL) >> 8) % 3);
            Check.due("ROADS of seed " + seed, x.now(4), closed);
            int road = drawn == 1 ? 1 : 4;
            Check.due("p by seed " + seed, x.person(0, 1), (closed & road) != 0 ? 0 : drawn);
        }
        Check.of("DRAWN: 'a draw of all ROADS (none: no draw)'");
        int found = 0;
        for (int seed = 0; seed < 40; seed++) {
            int first = seed * 1103515245 + 12345;
            int second = first * 1103515245 + 12345;
            if ((first >>> 8) % 4 == 0) {
                found++;
                InchBorders x = Check.on("land a 0 0;land b 0 0;road a b 0 240;person p a 9;");
                x.drawn(1, seed);
                Check.due("closed, so he stays, seed " + seed, x.person(0, 1), 0);
                Check.due("closed, seed " + seed, x.now(4), 1);
                x.undo();
                x.close(0);
                x.drawn(1, seed);
                int third = second * 1103515245 + 12345;
                Check.due("opened, if it is closed, seed " + seed, x.now(4), 0);
                Check.due("a second draw was of the ROAD, seed " + seed, x.person(0, 1), (third >>> 8) % 2);
            }
        }
        Check.due("seeds whose first draw is 0", found > 3, true);
        for (int seed = 0; seed < 40; seed++) {
            InchBorders x = Check.on("land a 0 0;land b 0 0;person p a 9;");
            x.drawn(1, seed);
            Check.due("no ROAD is closed that is none, seed " + seed, x.now(4), 0);
        }
    }
}
