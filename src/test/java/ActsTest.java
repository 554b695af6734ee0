/** Promises 10 to 17: cross, pact, breaks, close, open, lend, days, undo. */
public final class ActsTest {
    private static final int NONE = InchBorders.NONE;

    public static void main(String[] args) {
        crossing();
        giving();
        taking();
        treaties();
        roads();
        lending();
        days();
        undoing();
        Check.end();
    }

    private static void crossing() {
        InchBorders x = Check.on("land a 0 0;land b 5 0;land c 0 0;road a b 10 20;person p a 9;person q a 10;"
            + "person r a 20;person s a 21;");
        Check.due("no ROAD", x.cross(0, 2), 1);
        Check.due("where he is", x.cross(0, 0), 1);
        Check.due("too short", x.cross(0, 1), 3);
        Check.due("too long", x.cross(3, 1), 4);
        x.close(0);
        Check.due("closed comes ahead of too short", x.cross(0, 1), 2);
        Check.due("no ROAD comes ahead of closed", x.cross(0, 2), 1);
        x.open(0);
        Check.due("LOW is enough", x.cross(1, 1), 0);
        Check.due("HIGH is not too long", x.cross(2, 1), 0);
        Check.due("back: now he is too short", x.cross(1, 0), 3);
        Check.due("roads lead both ways", x.cross(2, 0), 0);
        Check.due("no such PERSON", x.cross(4, 0), NONE);
        Check.due("no such PERSON", x.cross(-1, 0), NONE);
        Check.due("no such LAND", x.cross(0, 3), NONE);
        Check.due("no such LAND", x.cross(0, -1), NONE);
        Check.due("neither", x.cross(Integer.MIN_VALUE, Integer.MAX_VALUE), NONE);
    }

    private static void giving() {
        InchBorders x = Check.on("land a 9 5;land b 0 0;store a 12;road a b 0 240;person p a 10;person q a 238;"
            + "person r a 20;");
        x.cross(0, 1);
        Check.due("p comes home", x.cross(0, 0), 0);
        Check.due("as much as told", x.person(0, 4), 5);
        x.cross(1, 1);
        x.cross(1, 0);
        Check.due("what he lacks to 240", x.person(1, 2), 240);
        Check.due("what he lacks to 240", x.person(1, 4), 2);
        Check.due("out of the store", x.land(0, 2), 5);
        x.lend(0, 1, 2);
        x.cross(2, 1);
        x.cross(2, 0);
        Check.due("what there is", x.person(2, 4), 3);
        Check.due("what there is", x.land(0, 2), 0);
        x.cross(2, 1);
        Check.due("nothing is a gift as well", x.cross(2, 0), 0);
        Check.due("nothing", x.person(2, 4), 3);
        Check.due("his HOME takes nothing", x.person(2, 3), 0);
        Check.due("four times", x.person(2, 5), 4);
    }

    private static void taking() {
        InchBorders x = Check.on("land a 0 0;land b 7 5;store b 1;road a b 0 240;person p a 7;person q a 8;"
            + "person r a 6;");
        Check.due("it would take all", x.cross(0, 1), 5);
        Check.due("it would take more", x.cross(2, 1), 5);
        Check.due("one inch is left", x.cross(1, 1), 0);
        Check.due("one inch is left", x.person(1, 2), 1);
        Check.due("into its store", x.land(1, 2), 8);
        Check.due("what was taken", x.person(1, 3), 7);
        x.pact(0, 1);
        Check.due("spared", x.cross(0, 1), 0);
        Check.due("spared", x.person(0, 2), 7);
        Check.due("spared", x.land(1, 2), 8);
        x.breaks(0, 1);
        Check.due("no more", x.cross(2, 1), 5);
        x.pact(1, 0);
        Check.due("the other's TREATY spares nobody of a", x.cross(2, 1), 5);
        x = Check.on("land a 0 0;land b 7 0;land c 0 0;treaty a b;road a b 0 9;road c b 0 9;person p a 7;person q c 7;");
        Check.due("a told TREATY spares its own", x.cross(0, 1), 0);
        Check.due("and no others", x.cross(1, 1), 5);
        x = Check.on("land a 20 0;land b 7 0;road a b 0 9;person p a 8;");
        x.cross(0, 1);
        Check.due("his HOME would TAKE nothing", x.cross(0, 0), 0);
    }

    private static void treaties() {
        InchBorders x = Check.on("land a 0 0;land b 0 0;land c 0 0;");
        Check.due("pact", x.pact(0, 2), 0);
        Check.due("again", x.pact(0, 2), 2);
        Check.due("the other way", x.pact(2, 0), 0);
        Check.due("alike", x.pact(1, 1), 1);
        Check.due("break none", x.breaks(0, 1), 1);
        Check.due("break of alike ones", x.breaks(1, 1), 1);
        Check.due("break", x.breaks(0, 2), 0);
        Check.due("break again", x.breaks(0, 2), 1);
        Check.due("the other stays", x.land(2, 3), 1);
        Check.due("it is gone", x.land(0, 3), 0);
        for (int bad : new int[] {-1, 3, Integer.MIN_VALUE, Integer.MAX_VALUE}) {
            Check.due("pact(" + bad + ", 0)", x.pact(bad, 0), NONE);
            Check.due("pact(0, " + bad + ")", x.pact(0, bad), NONE);
            Check.due("pact of the same bad ones", x.pact(bad, bad), NONE);
            Check.due("breaks(" + bad + ", 0)", x.breaks(bad, 0), NONE);
            Check.due("breaks(0, " + bad + ")", x.breaks(0, bad), NONE);
        }
    }

    private static void roads() {
        InchBorders x = Check.on("land a 0 0;land b 0 0;land c 0 0;road a b 0 9;road b c 0 9;");
        Check.due("close", x.close(1), 0);
        Check.due("close again", x.close(1), 2);
        Check.due("there is none", x.close(2), 1);
        Check.due("there is none", x.close(11), 1);
        Check.due("close(12)", x.close(12), NONE);
        Check.due("close(-1)", x.close(-1), NONE);
        Check.due("it is closed", x.now(4), 2);
        Check.due("open one that is open", x.open(0), 2);
        Check.due("open", x.open(1), 0);
        Check.due("open again", x.open(1), 2);
        Check.due("there is none", x.open(2), 1);
        Check.due("there is none", x.open(11), 1);
        Check.due("open(12)", x.open(12), NONE);
        Check.due("open(-1)", x.open(-1), NONE);
        Check.due("all are open", x.now(4), 0);
    }

    private static void lending() {
        InchBorders x = Check.on("land a 0 0;land b 0 0;store a 99;store b 60;");
        Check.due("lend", x.lend(0, 1, 99), 0);
        Check.due("all of it", x.land(0, 2), 0);
        Check.due("a store may have more than 99", x.land(1, 2), 159);
        Check.due("less in it", x.lend(0, 1, 1), 2);
        Check.due("alike", x.lend(1, 1, 5), 1);
        Check.due("alike comes ahead of less", x.lend(0, 0, 5), 1);
        Check.due("0 is not as told", x.lend(1, 0, 0), NONE);
        Check.due("100 is not as told", x.lend(1, 0, 100), NONE);
        Check.due("-1 is not as told", x.lend(1, 0, -1), NONE);
        Check.due("no such LAND", x.lend(2, 0, 1), NONE);
        Check.due("no such LAND", x.lend(0, 2, 1), NONE);
        Check.due("no such LAND", x.lend(-1, 0, 1), NONE);
        Check.due("nothing went", x.now(2), 159);
    }

    private static void days() {
        InchBorders x = Check.on("land a 0 0;land b 0 0;store a 4;store b 9;road a b 0 240;person p a 10;"
            + "person q a 20;person r b 239;person s a 5;");
        Check.due("days(0)", x.days(0), NONE);
        Check.due("days(61)", x.days(61), NONE);
        Check.due("days(-1)", x.days(-1), NONE);
        x.cross(3, 1);
        Check.due("a DAY", x.days(1), 1);
        Check.due("p grew", x.person(0, 2), 11);
        Check.due("q grew", x.person(1, 2), 21);
        Check.due("r grew", x.person(2, 2), 240);
        Check.due("s is not at HOME", x.person(3, 2), 5);
        Check.due("a's store", x.land(0, 2), 2);
        x.lend(0, 1, 1);
        Check.due("a DAY", x.days(1), 1);
        Check.due("p is first to grow", x.person(0, 2), 12);
        Check.due("nothing is left for q", x.person(1, 2), 21);
        Check.due("nobody grows beyond 240", x.person(2, 2), 240);
        Check.due("b's store", x.land(1, 2), 9);
        for (int k = 0; k < 6; k++) {
            Check.due("60 DAYS", x.days(60), 60);
        }
        Check.due("38 are left", x.days(60), 38);
        Check.due("all are over", x.now(0), 400);
        Check.due("none goes by", x.days(1), 0);
        Check.due("days(61) is not as told then either", x.days(61), NONE);
        Check.due("undo of the 38", x.undo(), 7);
        Check.due("DAY 362", x.now(0), 362);
        Check.due("60 are too many still", x.days(39), 38);
        Check.due("one can CROSS when all are over", x.cross(0, 1), 0);
    }

    private static void undoing() {
        InchBorders x = Check.on(Check.THREE);
        String[] sights = new String[12];
        int acts = 0;
        Check.due("none", x.undo(), NONE);
        sights[acts++] = Check.brief(x);
        x.cross(0, 1);
        sights[acts++] = Check.brief(x);
        x.cross(1, 2);
        sights[acts++] = Check.brief(x);
        x.pact(1, 0);
        sights[acts++] = Check.brief(x);
        x.breaks(0, 2);
        sights[acts++] = Check.brief(x);
        x.close(2);
        sights[acts++] = Check.brief(x);
        x.open(2);
        sights[acts++] = Check.brief(x);
        x.lend(1, 0, 3);
        sights[acts++] = Check.brief(x);
        x.days(5);
        sights[acts++] = Check.brief(x);
        x.drawn(7, 99);
        sights[acts++] = Check.brief(x);
        Check.book(x, "day 3;close 0;", 1);
        // None of these is an act.
        x.cross(0, 9);
        x.cross(0, x.person(0, 1));
        x.pact(1, 0);
        x.breaks(0, 2);
        x.close(5);
        x.open(11);
        x.lend(0, 0, 1);
        x.days(0);
        x.drawn(0, 1);
        Check.book(x, "close 0;day 1;", 1);
        Check.book(x, "", 1);
        Check.book(x, "open 0;day 1;", 0);
        Check.book(x, "day 1;day 1", 1);
        x.way(0, 0, 0);
        x.rests();
        x.odds(0, 3, 3);
        x.caravan(1);
        x.image(1);
        for (int left = 7; left >= 0; left--) {
            acts--;
            Check.due("undo", x.undo(), left);
            Check.due("as it was", Check.brief(x), sights[acts]);
        }
        Check.due("eight at most are kept", x.undo(), NONE);
        Check.due("the ninth stays", Check.brief(x), sights[2]);
        x.cross(2, 0);
        Check.due("acts go on", x.undo(), 0);

        x = Check.on(Check.THREE);
        Check.book(x, "day 3;ann crosses aa;day 4;", 1);
        Check.due("what was lived of a WRONG BOOK", x.now(0), 3);
        Check.due("is undone", x.undo(), 0);
        Check.due("is undone", x.now(0), 0);
        x.close(0);
        Check.sentence(x, "in bb");
        x.undo();
        Check.due("a SENTENCE is not undone", x.said(NONE), 1);
    }
}
