/** Promises 6 to 9: person, land, road, now. */
public final class LooksTest {
    private static final int NONE = InchBorders.NONE;

    public static void main(String[] args) {
        persons();
        lands();
        roads();
        now();
        Check.end();
    }

    private static void persons() {
        InchBorders x = Check.on(Check.THREE);
        Check.due("HOME", x.person(1, 0), 1);
        Check.due("LAND", x.person(2, 1), 2);
        Check.due("length", x.person(2, 2), 9);
        Check.due("whither ann", x.person(0, 6), 6);
        Check.due("whither bob", x.person(1, 6), 5);
        Check.due("whither cid", x.person(2, 6), 3);
        x.cross(1, 0);
        Check.due("bob's HOME stays", x.person(1, 0), 1);
        Check.due("bob is in aa", x.person(1, 1), 0);
        Check.due("bob is 17 long", x.person(1, 2), 17);
        Check.due("3 were taken of him", x.person(1, 3), 3);
        Check.due("nothing was given", x.person(1, 4), 0);
        Check.due("once", x.person(1, 5), 1);
        x.cross(1, 1);
        Check.due("4 were given to bob", x.person(1, 4), 4);
        Check.due("bob is 21 long", x.person(1, 2), 21);
        Check.due("twice", x.person(1, 5), 2);
        x.days(2);
        Check.due("growing is no gift", x.person(1, 4), 4);
        Check.due("but length", x.person(1, 2), 23);
        x.close(0);
        Check.due("a closed ROAD leads nowhere", x.person(1, 6), 4);
        String before = Check.sight(x);
        Check.refuses("person(3, 0)", x, 3, 0);
        Check.refuses("person(-1, 0)", x, -1, 0);
        Check.refuses("person(0, 7)", x, 0, 7);
        Check.refuses("person(0, -1)", x, 0, -1);
        Check.refuses("person(most, least)", x, Integer.MAX_VALUE, Integer.MIN_VALUE);
        Check.due("a call that throws changes nothing", Check.sight(x), before);
    }

    private static void lands() {
        InchBorders x = Check.on(Check.THREE);
        Check.due("TAKE", x.land(2, 0), 4);
        Check.due("GIVE", x.land(0, 1), 5);
        Check.due("store", x.land(1, 2), 10);
        Check.due("store not told", x.land(2, 2), 0);
        Check.due("spared", x.land(0, 3), 4);
        Check.due("not spared", x.land(2, 3), 0);
        Check.due("there", x.land(2, 4), 4);
        x.cross(0, 2);
        Check.due("two are there", x.land(2, 4), 5);
        Check.due("nobody is there", x.land(0, 4), 0);
        x.pact(0, 1);
        Check.due("two spare them", x.land(0, 3), 6);
        Check.due("land(3, 0)", x.land(3, 0), NONE);
        Check.due("land(-1, 0)", x.land(-1, 0), NONE);
        Check.due("land(0, 5)", x.land(0, 5), NONE);
        Check.due("land(0, -1)", x.land(0, -1), NONE);
    }

    private static void roads() {
        InchBorders x = Check.on(Check.THREE);
        Check.due("as told", x.road(2, 0), 2);
        Check.due("as told", x.road(2, 1), 0);
        Check.due("LOW", x.road(1, 2), 5);
        Check.due("HIGH", x.road(1, 3), 60);
        Check.due("open", x.road(1, 4), 0);
        x.close(1);
        Check.due("closed", x.road(1, 4), 1);
        Check.due("the next is not", x.road(2, 4), 0);
        Check.due("road(3, 0)", x.road(3, 0), NONE);
        Check.due("road(-1, 0)", x.road(-1, 0), NONE);
        Check.due("road(0, 5)", x.road(0, 5), NONE);
        Check.due("road(0, -1)", x.road(0, -1), NONE);
    }

    private static void now() {
        InchBorders x = Check.on(Check.THREE);
        Check.due("lengths", x.now(1), 79);
        Check.due("stores", x.now(2), 12);
        Check.due("CROSSINGS", x.now(3), 0);
        Check.due("at HOME", x.now(5), 7);
        x.cross(0, 1);
        x.cross(2, 1);
        x.cross(0, 0);
        Check.due("CROSSINGS", x.now(3), 3);
        Check.due("at HOME", x.now(5), 3);
        // 50 - 2 + 2, 20, 9 - 2: aa's store had but 2.
        Check.due("lengths", x.now(1), 77);
        Check.due("stores", x.now(2), 14);
        x.days(4);
        Check.due("the DAY", x.now(0), 4);
        Check.due("bob grew", x.now(1), 81);
        x.close(0);
        x.close(2);
        Check.due("closed ROADS", x.now(4), 5);
        Check.due("ann is stuck", x.now(6), 1);
        x.close(1);
        Check.due("all are", x.now(6), 7);
        Check.due("TREATIES", x.now(7), 1);
        x.pact(2, 0);
        Check.due("TREATIES", x.now(7), 2);
        Check.due("now(8)", x.now(8), NONE);
        Check.due("now(-1)", x.now(-1), NONE);
    }
}
