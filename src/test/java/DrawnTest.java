/** Promises 33 and 34: drawn, odds. */
public final class DrawnTest {
    private static final int NONE = InchBorders.NONE;

    private static int drawnFrom = 0;

    public static void main(String[] args) {
        byCalls(Check.THREE, 1, 12);
        byCalls(Check.THREE, -2000000000, 30);
        byCalls(Check.THREE, 0, 20);
        byCalls("land a 1 1;land b 1 1;store a 5;person p a 9;", 77, 20);
        byCalls("land a 1 1;land b 1 1;store a 5;road a b 0 240;", 77, 20);
        edges();
        odds();
        Check.end();
    }

    private static int draw(int n) {
        drawnFrom = drawnFrom * 1103515245 + 12345;
        return (drawnFrom >>> 8) % n;
    }

    /** The same DAYS, done by other calls. */
    private static void byCalls(String map, int seed, int days) {
        InchBorders x = Check.on(map);
        InchBorders y = Check.on(map);
        Check.due("drawn", x.drawn(days, seed), days);
        drawnFrom = seed;
        for (int k = 0; k < days; k++) {
            if (draw(4) == 0 && y.count(1) > 0) {
                int r = draw(y.count(1));
                if (y.close(r) == 2) {
                    y.open(r);
                }
            }
            for (int p = 0; p < y.count(2); p++) {
                y.cross(p, draw(y.count(0)));
            }
            y.days(1);
        }
        Check.due("as by calls, seed " + seed, Check.sight(x), Check.sight(y));
        Check.due("it is one act", x.undo(), 0);
        Check.due("it is undone", Check.sight(x), Check.sight(Check.on(map)));
    }

    private static void edges() {
        InchBorders x = new InchBorders();
        Check.due("no LANDS", x.drawn(1, 1), NONE);
        x = Check.on(Check.THREE);
        Check.due("n 0", x.drawn(0, 1), NONE);
        Check.due("n 61", x.drawn(61, 1), NONE);
        Check.due("n -1", x.drawn(-1, 1), NONE);
        Check.due("nothing went", x.now(0), 0);
        Check.due("n 60", x.drawn(60, 5), 60);
        for (int k = 0; k < 5; k++) {
            x.days(60);
        }
        Check.due("40 are left", x.drawn(60, 5), 40);
        Check.due("none is", x.drawn(1, 5), 0);
        Check.due("the 40 are the latest act", x.undo(), 6);
        Check.due("DAY 360", x.now(0), 360);
    }

    private static void odds() {
        InchBorders x = Check.on(Check.THREE);
        x.drawn(3, 8);
        String before = Check.brief(x);
        x.image(0);
        int[] was = {x.person(0, 2), x.person(1, 2), x.person(2, 2)};
        int[] longer = {0, 0, 0};
        for (int k = 0; k < 30; k++) {
            x.drawn(20, Integer.MAX_VALUE - 10 + k);
            for (int p = 0; p < 3; p++) {
                longer[p] += x.person(p, 2) > was[p] ? 1 : 0;
            }
            x.restore(0);
        }
        for (int p = 0; p < 3; p++) {
            Check.due("odds of " + p, x.odds(p, 30, Integer.MAX_VALUE - 10), longer[p]);
        }
        Check.due("all stays", Check.brief(x), before);
        Check.due("odds are no act", x.undo(), NONE);
        Check.due("n 0", x.odds(0, 0, 1), NONE);
        Check.due("n 31", x.odds(0, 31, 1), NONE);
        Check.due("no such PERSON", x.odds(3, 1, 1), NONE);
        Check.due("no such PERSON", x.odds(-1, 1, 1), NONE);

        x = Check.on("land a 0 0;store a 99;person p a 5;person q a 240;");
        Check.due("he grows by every seed", x.odds(0, 30, 12), 30);
        Check.due("of one seed", x.odds(0, 1, 12), 1);
        Check.due("240 is no longer", x.odds(1, 30, 12), 0);
        for (int k = 0; k < 7; k++) {
            x.days(60);
        }
        Check.due("no DAY is left", x.odds(0, 30, 12), 0);
    }
}
