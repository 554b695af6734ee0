/** Promises 39 and 40: image, restore. */
public final class ImageTest {
    private static final int NONE = InchBorders.NONE;
    private static final String OTHER = "land x 1 1;land y 2 2;road x y 0 99;person q x 33;";

    public static void main(String[] args) {
        places();
        wholes();
        stays();
        Check.end();
    }

    private static void places() {
        InchBorders x = Check.on(Check.THREE);
        Check.due("image(2)", x.image(2), false);
        Check.due("image(-1)", x.image(-1), false);
        Check.due("restore(2)", x.restore(2), false);
        Check.due("restore(-1)", x.restore(-1), false);
        Check.due("nothing is kept", x.restore(0), false);
        Check.due("nothing is kept", x.restore(1), false);
        Check.due("image(1)", x.image(1), true);
        Check.due("not in place 0", x.restore(0), false);
        Check.due("in place 1", x.restore(1), true);
        x.days(3);
        Check.due("image(0)", x.image(0), true);
        x.days(4);
        x.restore(1);
        Check.due("DAY 0 in place 1", x.now(0), 0);
        x.restore(0);
        Check.due("DAY 3 in place 0", x.now(0), 3);
        x.restore(0);
        Check.due("it is kept on", x.now(0), 3);
        x.days(1);
        x.image(0);
        x.days(1);
        x.restore(0);
        Check.due("kept anew", x.now(0), 4);
        Check.due("all below", x.image(Integer.MIN_VALUE), false);
        Check.due("all above", x.restore(Integer.MAX_VALUE), false);
    }

    private static void wholes() {
        InchBorders x = Check.on(Check.THREE);
        x.cross(0, 1);
        x.cross(1, 2);
        x.close(1);
        x.pact(2, 0);
        x.breaks(0, 2);
        x.days(2);
        Check.sentence(x, "in cc");
        String before = Check.sight(x);
        x.image(0);
        Check.map(x, OTHER);
        x.cross(0, 1);
        x.image(1);
        String other = Check.sight(x);
        x.restore(0);
        Check.due("MAP and all", Check.sight(x), before);
        Check.due("the SENTENCE", x.said(NONE), 2);
        x.pass(0);
        Check.due("NAMES", Check.passText(x), "ann of aa in bb 48");
        x.restore(1);
        Check.due("the other MAP", Check.sight(x), other);
        Check.due("without a SENTENCE", x.said(NONE), NONE);
        Check.sentence(x, "in y");
        x.restore(1);
        Check.due("the later SENTENCE is gone", x.said(NONE), NONE);
        x.restore(0);
        x.cross(2, 0);
        x.lend(1, 0, 1);
        x.restore(0);
        Check.due("what is kept stays as it was", Check.sight(x), before);
    }

    private static void stays() {
        InchBorders x = Check.on(Check.THREE);
        x.image(0);
        x.days(1);
        x.way(0, 1, 49);
        x.spare(0, 1, 52);
        Check.made(x, 0, 50);
        x.caravan(1);
        x.part(0, 1);
        x.pass(2);
        Check.book(x, "day 7;", 0);
        Check.map(x, "land a 21 0;");
        int spared = x.spared();
        int parting = x.parting();
        int likely = x.likely();
        String rows = Check.wayRow(x) + " " + Check.madeRow(x) + " " + Check.caravanRow(x) + " " + Check.passText(x);
        x.feed(0, 0, 0, 0, 0);
        x.restore(0);
        Check.due("the tape stays", x.count(3), 20);
        Check.due("rows stay", Check.wayRow(x) + " " + Check.madeRow(x) + " " + Check.caravanRow(x) + " "
            + Check.passText(x), rows);
        Check.due("spared stays", x.spared(), spared);
        Check.due("parting stays", x.parting(), parting);
        Check.due("likely stays", x.likely(), likely);
        Check.due("told stays", x.told(2), 8);
        Check.due("fault stays", x.fault(), 2);
        Check.due("nothing can be undone", x.undo(), NONE);
        x.days(1);
        x.image(1);
        Check.due("an image leaves what can be", x.undo(), 0);
        x.days(1);
        x.restore(1);
        Check.due("nothing can be undone", x.undo(), NONE);
        x.days(1);
        Check.due("only what came behind", x.undo(), 0);
    }
}
