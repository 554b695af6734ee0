/** Promises 35 and 36: book, told. */
public final class BookTest {
    private static final int NONE = InchBorders.NONE;

    public static void main(String[] args) {
        judged();
        lived();
        wrongs();
        faults();
        lines();
        others();
        Check.end();
    }

    private static void told(String what, InchBorders x, int why, int lines, int day, int lengths) {
        Check.due(what + ": why", x.told(0), why);
        Check.due(what + ": LINES", x.told(1), lines);
        Check.due(what + ": DAY", x.told(2), day);
        Check.due(what + ": lengths", x.told(3), lengths);
    }

    private static void judged() {
        InchBorders x = Check.on(Check.THREE);
        String before = Check.brief(x);
        Check.due("an empty BOOK", Check.book(x, "", 0), NONE);
        told("an empty BOOK", x, 0, 0, 0, 79);
        String text = "ann crosses bb;pact bb aa;break aa cc;close 2;open 2;lend bb aa 12;day 3;";
        Check.due("all LINES", Check.book(x, text, 0), NONE);
        // 50 - 2; bob grows by nothing, as bb lent its 12; cid's cc has nothing.
        told("all LINES", x, 0, 7, 3, 77);
        Check.due("all stays", Check.brief(x), before);
        Check.due("nothing to undo", x.undo(), NONE);
        Check.due("a WRONG one", Check.book(x, "day 60;ann crosses bb;ann crosses bb;day 1;", 0), 2);
        // aa's 2 to ann, bb's 10 to bob, then 2 of ann.
        told("a WRONG one", x, 1, 2, 60, 89);
        Check.due("all stays", Check.brief(x), before);
        Check.due("the tape is empty", x.count(3), 0);
        Check.due("told(4)", x.told(4), NONE);
        Check.due("told(-1)", x.told(-1), NONE);
    }

    private static void lived() {
        InchBorders x = Check.on(Check.THREE);
        InchBorders y = Check.on(Check.THREE);
        Check.due("lived", Check.book(x, "ann crosses bb; pact bb aa; break aa cc; close 2; lend bb aa 5; day 3;", 1), NONE);
        y.cross(0, 1);
        y.pact(1, 0);
        y.breaks(0, 2);
        y.close(2);
        y.lend(1, 0, 5);
        y.days(3);
        Check.due("as by calls", Check.sight(x), Check.sight(y));
        told("lived", x, 0, 6, 3, x.now(1));
        Check.due("one act", x.undo(), 0);
        Check.due("undone", Check.sight(x), Check.sight(Check.on(Check.THREE)));
        x = Check.on(Check.THREE);
        Check.due("lived as far as it is not WRONG", Check.book(x, "day 2;close 1;close 1;day 2;", 1), 2);
        Check.due("two DAYS", x.now(0), 2);
        Check.due("one ROAD", x.now(4), 2);
        told("so far", x, 32, 2, 2, 83);
        Check.due("WRONG at once", Check.book(x, "open 0;", 1), 0);
        Check.due("is no act", x.undo(), 0);
    }

    private static void wrong(String map, String text, int line, int why) {
        InchBorders x = Check.on(map);
        Check.due("the LINE of " + text, Check.book(x, text, 0), line);
        Check.due("why of " + text, x.told(0), why);
        Check.due("the same if lived, " + text, Check.book(x, text, 1), line);
        Check.due("the same if lived, " + text, x.told(0), why);
    }

    private static void wrongs() {
        String map = "land a 0 0;land b 7 0;land c 0 0;road a b 5 20;store a 3;person p a 9;person q a 4;person r a 21;"
            + "person s a 7;";
        wrong(map, "p crosses c;", 0, 1);
        wrong(map, "close 0;p crosses b;", 1, 2);
        wrong(map, "q crosses b;", 0, 3);
        wrong(map, "r crosses b;", 0, 4);
        wrong(map, "s crosses b;", 0, 5);
        wrong(map, "pact a a;", 0, 11);
        wrong(map, "pact a b;pact b a;pact a b;", 2, 12);
        wrong(map, "break a b;", 0, 21);
        wrong(map, "break a a;", 0, 21);
        wrong(map, "close 1;", 0, 31);
        wrong(map, "close 0;close 0;", 1, 32);
        wrong(map, "open 11;", 0, 41);
        wrong(map, "open 0;", 0, 42);
        wrong(map, "lend a a 1;", 0, 51);
        wrong(map, "lend a b 4;", 0, 52);
        wrong(map, "lend a b 3;lend a b 1;", 1, 52);
        wrong(map, "p crosses a;", 0, 1);
        wrong(map, "p crosses b;p crosses a;", 1, 3);
        InchBorders x = Check.on(map);
        for (int k = 0; k < 6; k++) {
            x.days(60);
        }
        Check.due("40 are left", Check.book(x, "day 40;", 0), NONE);
        told("40 are left", x, 0, 1, 400, 44);
        Check.due("41 are not", Check.book(x, "day 41;", 1), 0);
        told("41 are not", x, 61, 0, 360, 44);
        Check.due("none of them goes by", x.now(0), 360);
        Check.due("LINE by LINE", Check.book(x, "day 20;day 20;day 1;", 1), 2);
        Check.due("all are over", x.now(0), 400);
        Check.due("why", x.told(0), 61);
    }

    private static void fault(String text, int kind, int place) {
        InchBorders x = Check.on(Check.THREE);
        Check.book(x, "day 5;", 0);
        String before = Check.brief(x);
        Check.due("book of " + text, Check.book(x, text, 1), -2 - place);
        Check.due("fault of " + text, x.fault(), kind);
        Check.due("nothing is lived of " + text, Check.brief(x), before);
        Check.due("the tape is empty behind " + text, x.count(3), 0);
        told("the latest without a FAULT", x, 0, 1, 5, 86);
        Check.due("no act", x.undo(), NONE);
    }

    private static void faults() {
        fault(";", 1, 0);
        fault("ann crosses", 1, 11);
        fault("ann crosses bb", 1, 14);
        fault("ann crosses bb cc;", 1, 15);
        fault("ann in bb;", 1, 4);
        fault("ann aa bb;", 1, 4);
        fault("day 3;ann", 1, 9);
        fault("ann crosses 3;", 1, 12);
        fault("land x 0 0;", 1, 0);
        fault("crosses bb;", 1, 0);
        fault("home;", 1, 0);
        fault("3 crosses bb;", 1, 0);
        fault("day x;", 1, 4);
        fault("day;", 1, 3);
        fault("day 1 1;", 1, 6);
        fault("pact aa;", 1, 7);
        fault("pact aa home;", 1, 8);
        fault("lend aa bb;", 1, 10);
        fault("close aa;", 1, 6);
        fault("day 0;", 2, 4);
        fault("day 61;", 2, 4);
        fault("close 12;", 2, 6);
        fault("open 12;", 2, 5);
        fault("lend aa bb 0;", 2, 11);
        fault("lend aa bb 100;", 2, 11);
        fault("day 1000;", 1, 4);
        fault("aa crosses bb;", 3, 0);
        fault("dan crosses bb;", 3, 0);
        fault("dan", 3, 0);
        fault("ann crosses bob;", 3, 12);
        fault("ann crosses dd;", 3, 12);
        fault("pact ann bb;", 3, 5);
        fault("pact aa ann;", 3, 8);
        fault("break aa dd;", 3, 9);
        fault("lend dd aa 3;", 3, 5);
        fault("ann crosses aa;ann crosses dd;", 3, 27);
        InchBorders x = Check.on(Check.THREE);
        Check.due("a LINE that is WRONG is no FAULT", Check.book(x, "pact aa aa;", 0), 0);
        Check.due("without ROADS there is 11 to tell", Check.book(x, "close 11;", 0), 0);
    }

    private static String times(String text, int many) {
        StringBuilder s = new StringBuilder();
        for (int k = 0; k < many; k++) {
            s.append(text);
        }
        return s.toString();
    }

    private static void lines() {
        InchBorders x = Check.on(Check.THREE);
        Check.due("40 LINES", Check.book(x, times("day 1;", 40), 1), NONE);
        Check.due("40 LINES", x.now(0), 40);
        Check.due("40 LINES", x.told(1), 40);
        fault(times("day 1;", 41), 4, 240);
        fault(times("day 1;", 40) + "\nann crosses bb;", 4, 241);
        fault(times("day 1;", 40) + "dan crosses bb;", 3, 240);
        fault(times("day 1;", 40) + "aa crosses bb;", 3, 240);
        fault(times("day 1;", 40) + ";", 1, 240);
        fault(times("day 1;", 40) + "day", 4, 240);
        fault(times("day 1;", 40) + "home", 1, 240);
        Check.due("400 bytes", Check.book(x, times("day 1;", 2) + times(" ", 388), 0), NONE);
        fault("day 1;" + times(" ", 395), 1, 400);
        fault("day 1" + times(" ", 395) + ";", 1, 400);
        fault("day" + times(" ", 396) + "61;", 2, 399);
        fault("day" + times(" ", 396) + "60;", 1, 400);
        fault("day 1" + times(" ", 394) + ";day", 1, 400);
        fault("day 0" + times(" ", 600), 2, 4);
    }

    private static void others() {
        InchBorders x = Check.on(Check.THREE);
        Check.tape(x, "day 1;");
        Check.due("lives 2", x.book(2), -1000);
        Check.due("lives -1", x.book(-1), -1000);
        Check.due("the tape stays", x.count(3), 6);
        Check.due("ahead of any", x.told(0), NONE);
        Check.due("so it can be lived", x.book(1), NONE);
        Check.due("DAY 1", x.told(2), 1);
        x.book(7);
        Check.due("-1000 tells nothing", x.told(1), 1);
        Check.map(x, "");
        Check.due("a new MAP leaves what was told", x.told(1), 1);
        Check.due("no PERSONS", Check.book(x, "ann crosses aa;", 0), -2);
        Check.due("no PERSONS", x.fault(), 3);
    }
}
