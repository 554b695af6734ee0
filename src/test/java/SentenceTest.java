/** Promises 37 and 38: sentence, said. */
public final class SentenceTest {
    private static final int NONE = InchBorders.NONE;

    public static void main(String[] args) {
        ones();
        joined();
        counted();
        faults();
        limits();
        kept();
        Check.end();
    }

    private static void says(InchBorders x, String text, String persons) {
        if (Check.sentence(x, text) < 1) {
            Check.due("the SENTENCE " + text, x.fault(), 0);
        }
        StringBuilder of = new StringBuilder();
        for (int k = 0; x.said(k) != NONE; k++) {
            of.append(x.said(k));
        }
        Check.due(text, of.toString(), persons);
        Check.due(text, x.said(NONE), persons.length());
    }

    private static void ones() {
        InchBorders x = Check.on(Check.THREE);
        x.cross(1, 2);
        x.cross(1, 0);
        x.close(0);
        x.close(1);
        // ann 50 in aa, bob 13 of bb in aa, 7 taken, crossed twice; cid 9 in cc.
        says(x, "home", "02");
        says(x, "stuck", "");
        says(x, "in aa", "01");
        says(x, "in bb", "");
        says(x, "of bb", "1");
        says(x, "free cc", "0");
        says(x, "free aa", "");
        says(x, "length > 13", "0");
        says(x, "length = 13", "1");
        says(x, "length < 13", "2");
        says(x, "taken > 0", "1");
        says(x, "taken = 7", "1");
        says(x, "taken < 7", "02");
        says(x, "crossed = 2", "1");
        says(x, "crossed < 1", "02");
        says(x, "crossed > 2", "");
        says(x, "number = 2", "2");
        says(x, "number < 2", "01");
        says(x, "number > 0", "12");
        says(x, "number < 999", "012");
        says(x, "length > 000", "012");
        x.close(2);
        says(x, "stuck", "012");
        x.pact(0, 1);
        says(x, "free bb", "0");
    }

    private static void joined() {
        InchBorders x = Check.on(Check.THREE);
        says(x, "of aa or of bb and of cc", "0");
        says(x, "(of aa or of bb) and of cc", "");
        says(x, "of aa and of bb or of cc", "2");
        says(x, "of aa or of bb or of cc", "012");
        says(x, "not of aa and number < 2", "1");
        says(x, "not (of aa and number < 2)", "12");
        says(x, "not of aa or of aa", "012");
        says(x, "not not of aa", "0");
        says(x, "not not not of aa", "12");
        says(x, "((home))", "012");
        says(x, "length>10 and length<30", "1");
        says(x, "home\nand(of aa or(of cc))", "02");
        says(x, "of cc and home and length = 9", "2");
        says(x, "of aa and (of bb or home) or not (home and not of cc)", "02");
    }

    private static void counted() {
        InchBorders x = Check.on(Check.THREE);
        Check.due("one", Check.sentence(x, "home"), 1);
        Check.due("two", Check.sentence(x, "home and home"), 2);
        Check.due("a not is one", Check.sentence(x, "not home"), 2);
        Check.due("a bracket is one", Check.sentence(x, "(home)"), 2);
        Check.due("all of them", Check.sentence(x, "not (home or not stuck) and in aa"), 6);
        Check.due("the tape is empty", x.count(3), 0);
        Check.due("said(-2)", x.said(-2), NONE);
        Check.due("said(least)", x.said(Integer.MIN_VALUE), NONE);
        Check.due("said(6)", x.said(6), NONE);
        Check.due("said(most)", x.said(Integer.MAX_VALUE), NONE);
        InchBorders y = new InchBorders();
        Check.due("without LANDS", Check.sentence(y, "home or stuck"), 2);
        Check.due("of nobody", y.said(NONE), 0);
        Check.due("of nobody", y.said(0), NONE);
    }

    private static void fault(String text, int kind, int place) {
        InchBorders x = Check.on(Check.THREE);
        Check.sentence(x, "of bb");
        Check.due("sentence of " + text, Check.sentence(x, text), -1 - place);
        Check.due("fault of " + text, x.fault(), kind);
        Check.due("the SENTENCE stays behind " + text, x.said(0), 1);
        Check.due("the tape is empty behind " + text, x.count(3), 0);
    }

    private static void faults() {
        fault("", 1, 0);
        fault("   ", 1, 3);
        fault("aa", 1, 0);
        fault("ann", 1, 0);
        fault("xyz", 1, 0);
        fault("7", 1, 0);
        fault(")", 1, 0);
        fault("and home", 1, 0);
        fault("home;", 1, 4);
        fault("home home", 1, 5);
        fault("home and", 1, 8);
        fault("home or ;", 1, 8);
        fault("home or and home", 1, 8);
        fault("home)", 1, 4);
        fault("(home", 1, 5);
        fault("(home ", 1, 6);
        fault("()", 1, 1);
        fault("not", 1, 3);
        fault("in", 1, 2);
        fault("in home", 1, 3);
        fault("in 3", 1, 3);
        fault("in ann", 3, 3);
        fault("of dd", 3, 3);
        fault("free dd and", 3, 5);
        fault("length 3", 1, 7);
        fault("length <", 1, 8);
        fault("length < aa", 1, 9);
        fault("length < < 3", 1, 9);
        fault("length <= 3", 1, 8);
        fault("length < 1000", 1, 9);
        fault("length ( 3", 1, 7);
        fault("crosses", 1, 0);
        fault("land", 1, 0);
        fault("homes", 1, 0);
        fault("home .", 1, 5);
        fault("length>10and home", 1, 7);
    }

    private static String times(String text, int many) {
        StringBuilder s = new StringBuilder();
        for (int k = 0; k < many; k++) {
            s.append(text);
        }
        return s.toString();
    }

    private static void limits() {
        InchBorders x = Check.on(Check.THREE);
        Check.due("20 ONES", Check.sentence(x, times("home or ", 19) + "home"), 20);
        Check.due("all are at home", x.said(NONE), 3);
        Check.due("20 ONES", Check.sentence(x, times("home and ", 19) + "home"), 20);
        Check.due("all are at home", x.said(NONE), 3);
        fault(times("home or ", 20) + "home", 4, 160);
        fault(times("home or ", 20) + "ann", 1, 160);
        fault(times("home or ", 20), 1, 160);
        fault(times("not home or ", 10) + "of dd", 4, 120);
        Check.due("8 within one another", Check.sentence(x, times("not ", 7) + "home"), 8);
        Check.due("8 within one another", Check.sentence(x, times("(", 7) + "home" + times(")", 7)), 8);
        fault(times("not ", 8) + "home", 4, 32);
        fault(times("not ", 9), 4, 32);
        fault(times("not ", 8) + "ann", 1, 32);
        fault(times("(", 8) + "home" + times(")", 8), 4, 8);
        fault(times("(not ", 4) + "home" + times(")", 4), 4, 20);
        Check.due("beside one another they go on", Check.sentence(x, times("not ", 7) + "home and " + times("(", 7)
            + "home" + times(")", 7)), 16);
        Check.due("all sorts", Check.sentence(x, "(home or (home or (home or (home or (home or (home or (home or"
            + " in aa)))))))"), 15);
        Check.due("200 bytes", Check.sentence(x, times(" ", 196) + "home"), 1);
        fault(times(" ", 197) + "home", 1, 200);
        fault("home" + times(" ", 197), 1, 200);
        fault("not" + times(" ", 196) + "x", 1, 199);
        fault("in" + times(" ", 196) + "dd" + " and", 3, 198);
        fault(times(" ", 940), 1, 200);
    }

    private static void kept() {
        InchBorders x = Check.on(Check.THREE);
        Check.due("none", x.said(NONE), NONE);
        Check.due("none", x.said(0), NONE);
        says(x, "in bb", "1");
        x.cross(0, 1);
        Check.due("it is said of what is so", x.said(NONE), 2);
        Check.due("it is said of what is so", x.said(0), 0);
        x.undo();
        Check.due("it is said of what is so", x.said(NONE), 1);
        Check.map(x, Check.THREE);
        Check.due("a new MAP has none", x.said(NONE), NONE);
    }
}
