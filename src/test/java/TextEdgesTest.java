import java.util.ArrayList;
import java.util.List;

/** Each sentence of 'Terms' that names an edge of a text, by itself (promises 4, 5, 35, 37 read these texts). */
public final class TextEdgesTest {
    private static final String TWO = "land a 1 2;land b 3 4;";
    private static final String[] KEPT = {"land", "store", "road", "treaty", "person", "crosses", "pact", "break", "close",
        "open", "lend", "day", "or", "and", "not", "home", "stuck", "in", "of", "free", "length", "taken", "crossed",
        "number"};

    public static void main(String[] args) {
        blanks();
        words();
        numbers();
        runs();
        mapNumbers();
        mapPairs();
        mapNames();
        mapMany();
        bookEdges();
        sentenceEdges();
        cutTexts();
        otherTokens();
        mostBytes();
        firstAlong();
        leastOfOne();
        Check.end();
    }

    private static void mapReads(String text, int lines) {
        InchBorders x = new InchBorders();
        Check.due("map of " + text, Check.map(x, text), lines);
        Check.due("fault of " + text, x.fault(), 0);
    }

    private static void bookReads(String text, int lines) {
        InchBorders x = Check.on(Check.THREE);
        Check.book(x, text, 0);
        Check.due("fault of " + text, x.fault(), 0);
        Check.due("LINES of " + text, x.told(1), lines);
    }

    private static void sentenceReads(String text, int ones) {
        InchBorders x = Check.on(Check.THREE);
        Check.due("sentence of " + text, Check.sentence(x, text), ones);
        Check.due("fault of " + text, x.fault(), 0);
    }

    private static void bookFault(String text, int kind, int place) {
        InchBorders x = Check.on(Check.THREE);
        Check.due("book of " + text, Check.book(x, text, 1), -2 - place);
        Check.due("fault of " + text, x.fault(), kind);
        Check.due("the tape is empty behind " + text, x.count(3), 0);
        Check.due("ahead of any told() behind " + text, x.told(0), -1);
    }

    private static void sentenceFault(String text, int kind, int place) {
        InchBorders x = Check.on(Check.THREE);
        Check.due("sentence of " + text, Check.sentence(x, text), -1 - place);
        Check.due("fault of " + text, x.fault(), kind);
        Check.due("the tape is empty behind " + text, x.count(3), 0);
        Check.due("no SENTENCE behind " + text, x.said(-1), -1);
    }

    private static String times(String text, int many) {
        StringBuilder s = new StringBuilder();
        for (int k = 0; k < many; k++) {
            s.append(text);
        }
        return s.toString();
    }

    private static void blanks() {
        Check.of("'with blanks (32, 10) between them or not'");
        for (int b = 0; b < 256; b++) {
            String text = "land a 0 0;" + (char) b + "land c 0 0;";
            if (b == 32 || b == 10) {
                mapReads(text, 2);
                bookReads("day 1" + (char) b + ";", 1);
                sentenceReads("not" + (char) b + "home", 2);
            } else {
                Check.mapFault(text, 1, 11);
                bookFault("day 1;" + (char) b + "day 1;", b >= 'a' && b <= 'z' ? 3 : 1, 6);
                sentenceFault("(home)" + (char) b + "home", 1, 6);
            }
        }
        mapReads("land a 0 0;land b 0 0;", 2);
        mapReads(" land a 0 0 ; land b 0 0 ; ", 2);
        mapReads("\n\nland\na\n0\n0\n;\n", 1);
        sentenceReads("not(length<5)or(home)and(in aa)or(of bb)", 9);
    }

    private static void words() {
        Check.of("'WORDS: small letters, 1 to 7'");
        for (int n = 1; n <= 7; n++) {
            mapReads("land " + times("z", n) + " 0 0;", 1);
        }
        for (int n = 8; n <= 60; n++) {
            Check.mapFault("land " + times("z", n) + " 0 0;", 1, 5);
        }
        Check.mapFault("land A 0 0;", 1, 5);
        Check.mapFault("land zzZ 0 0;", 1, 7);
        Check.mapFault("land z_z 0 0;", 1, 6);
        // Letters ahead of a known WORD must not fall out of what is kept of a long one.
        for (int n = 1; n <= 60; n++) {
            Check.mapFault(times("z", n) + "land a 0 0;", 1, 0);
        }
    }

    private static void numbers() {
        Check.of("'NUMBERS: 1 to 3 digits'");
        for (int n = 1; n <= 3; n++) {
            mapReads("land a " + times("0", n) + " 0;", 1);
        }
        mapReads("land a 020 0;", 1);
        for (int n = 4; n <= 60; n++) {
            Check.mapFault("land a " + times("0", n) + " 0;", 1, 7);
        }
        // These would be 0 if a NUMBER wrapped around.
        Check.mapFault("land a 4294967296 0;", 1, 7);
        Check.mapFault("land a 18446744073709551616 0;", 1, 7);
        Check.mapFault("land a 1000 0;", 1, 7);
        Check.mapFault("land a -0 0;", 1, 7);
        Check.mapFault("land a +0 0;", 1, 7);
        bookFault("day 0001;", 1, 4);
        bookReads("day 001;", 1);
        sentenceReads("length<999", 1);
        sentenceFault("length<0999", 1, 7);
    }

    private static void runs() {
        Check.of("'A WORD, NUMBER goes on as long as small letters and digits do'");
        String[] mixed = {"a1", "1a", "a1a", "1a1", "abcdef1", "123a", "a123", "0x0"};
        for (String run : mixed) {
            Check.mapFault("land " + run + " 0 0;", 1, 5);
            Check.mapFault("land a 0 " + run + ";", 1, 9);
            bookFault(run + " crosses bb;", 1, 0);
            bookFault("ann crosses " + run + ";", 1, 12);
            sentenceFault("in " + run, 1, 3);
            sentenceFault("length<" + run, 1, 7);
        }
        Check.mapFault("land a 00;", 1, 9);
        Check.mapFault("landa 0 0;", 1, 0);
        Check.mapFault("land a0 0;", 1, 5);
        sentenceFault("length<5and home", 1, 7);
        sentenceFault("nothome", 1, 0);
    }

    private static void mapNumbers() {
        Check.of("'TAKE GIVE (0 to 20 each)'");
        mapReads("land a 0 0;", 1);
        mapReads("land a 20 20;", 1);
        Check.mapFault("land a 21 0;", 2, 7);
        Check.mapFault("land a 0 21;", 2, 9);
        Check.mapFault("land a 999 0;", 2, 7);
        Check.mapFault("land a 20 999;", 2, 10);
        Check.of("'store' LAND N (0 to 99; 0 without)'");
        InchBorders x = Check.on("land a 0 0;land b 0 0;land c 0 0;store a 99;store c 0;");
        Check.due("99", x.land(0, 2), 99);
        Check.due("without", x.land(1, 2), 0);
        Check.due("0", x.land(2, 2), 0);
        Check.mapFault("land a 0 0;store a 100;", 2, 19);
        Check.of("'road' .. (0 to 240 each, HIGH not below LOW)'");
        mapReads(TWO + "road a b 0 0;", 3);
        mapReads(TWO + "road a b 0 240;", 3);
        mapReads(TWO + "road a b 240 240;", 3);
        mapReads(TWO + "road a b 9 9;", 3);
        Check.mapFault(TWO + "road a b 241 241;", 2, 31);
        Check.mapFault(TWO + "road a b 240 241;", 2, 35);
        Check.mapFault(TWO + "road a b 9 8;", 2, 33);
        Check.mapFault(TWO + "road a b 1 0;", 2, 33);
        Check.mapFault(TWO + "road a b 240 239;", 2, 35);
        Check.of("'person' NAME LAND N (1 to 240 long)'");
        mapReads("land a 0 0;person p a 1;", 2);
        mapReads("land a 0 0;person p a 240;", 2);
        Check.mapFault("land a 0 0;person p a 0;", 2, 22);
        Check.mapFault("land a 0 0;person p a 000;", 2, 22);
        Check.mapFault("land a 0 0;person p a 241;", 2, 22);
    }

    private static void mapPairs() {
        Check.of("'store': each LAND once");
        mapReads("land a 0 0;land b 0 0;store a 1;store b 1;", 4);
        Check.mapFault("land a 0 0;store a 1;store a 1;", 3, 27);
        Check.mapFault("land a 0 0;store a 0;store a 0;", 3, 27);
        Check.mapFault("land a 0 0;land b 0 0;store a 1;store b 1;store a 2;", 3, 48);
        Check.of("'road': unlike; each two once, in whatever order");
        Check.mapFault(TWO + "road a a 0 1;", 3, 29);
        Check.mapFault(TWO + "road b b 0 1;", 3, 29);
        Check.mapFault(TWO + "road a b 0 1;road a b 0 1;", 3, 42);
        Check.mapFault(TWO + "road a b 0 1;road b a 0 1;", 3, 42);
        mapReads(TWO + "land c 0 0;road a b 0 1;road b c 0 1;road c a 0 1;", 6);
        Check.of("'treaty': unlike; each two once, as told");
        Check.mapFault(TWO + "treaty a a;", 3, 31);
        Check.mapFault(TWO + "treaty a b;treaty a b;", 3, 42);
        Check.mapFault(TWO + "treaty a b;treaty b a;treaty b a;", 3, 53);
        mapReads(TWO + "treaty a b;treaty b a;", 4);
        mapReads(TWO + "treaty a b;road a b 0 1;", 4);
    }

    private static void mapNames() {
        Check.of("'NAME: a WORD, none of those told here, in a BOOK or a SENTENCE'");
        for (String word : KEPT) {
            Check.mapFault("land " + word + " 0 0;", 1, 5);
            Check.mapFault("land a 0 0;person " + word + " a 1;", 1, 18);
            Check.mapFault("land a 0 0;person p " + word + " 1;", 1, 20);
            mapReads("land " + (word.length() < 7 ? word + "x" : word.substring(1)) + " 0 0;", 1);
        }
        Check.of("'NAME: told once'");
        Check.mapFault("land a 0 0;land a 0 0;", 3, 16);
        Check.mapFault("land a 0 0;person a a 1;", 3, 18);
        Check.mapFault("land a 0 0;person p a 1;land p 0 0;", 3, 29);
        Check.mapFault("land a 0 0;person p a 1;person p a 1;", 3, 31);
        mapReads("land a 0 0;land aa 0 0;person aaa a 1;person aaaa a 1;", 4);
        mapReads("land abcdefg 0 0;land abcdefh 0 0;land bbcdefg 0 0;", 3);
        Check.of("3: 'a NAME .. not told, or of another sort'");
        String one = "land a 0 0;person p a 1;";
        for (String name : new String[] {"p", "q", "b"}) {
            Check.mapFault(one + "store " + name + " 1;", 3, 30);
            Check.mapFault(one + "road " + name + " a 0 1;", 3, 29);
            Check.mapFault(one + "road a " + name + " 0 1;", 3, 31);
            Check.mapFault(one + "treaty " + name + " a;", 3, 31);
            Check.mapFault(one + "treaty a " + name + ";", 3, 33);
            Check.mapFault(one + "person r " + name + " 1;", 3, 33);
        }
        // Behind the place where it is asked for is too late.
        Check.mapFault("store a 1;land a 0 0;", 3, 6);
        Check.mapFault("person p a 1;land a 0 0;", 3, 9);
        Check.mapFault("land a 0 0;person p p 1;", 3, 20);
    }

    private static void mapMany() {
        Check.of("'7 LANDS, 12 ROADS, 6 PERSONS at most, numbered from 0 each'");
        StringBuilder lands = new StringBuilder();
        for (char c = 'a'; c < 'h'; c++) {
            lands.append("land ").append(c).append(" 0 0;");
        }
        mapReads(lands.toString(), 7);
        Check.mapFault(lands + "land h 0 0;", 4, lands.length());
        Check.mapFault(lands + " \nland h 0 0;", 4, lands.length() + 2);
        String[] pairs = {"a b", "a c", "a d", "a e", "a f", "a g", "b c", "b d", "b e", "b f", "b g", "c d"};
        StringBuilder roads = new StringBuilder(lands);
        for (String pair : pairs) {
            roads.append("road ").append(pair).append(" 3 7;");
        }
        mapReads(roads.toString(), 19);
        Check.mapFault(roads + "road c e 3 7;", 4, roads.length());
        StringBuilder persons = new StringBuilder(lands);
        for (char p = 'p'; p < 'v'; p++) {
            persons.append("person ").append(p).append(" g 9;");
        }
        mapReads(persons.toString(), 13);
        Check.mapFault(persons + "person v a 9;", 4, persons.length());
        InchBorders x = Check.on(roads.toString() + "person p g 9;store g 4;");
        Check.due("LAND 6", x.land(6, 2), 4);
        Check.due("LAND 7", x.land(7, 2), -1);
        Check.due("ROAD 0", x.road(0, 1), 1);
        Check.due("ROAD 11", x.road(11, 1), 3);
        Check.due("ROAD 12", x.road(12, 1), -1);
        Check.due("PERSON 0", x.person(0, 0), 6);
        x = Check.on(persons.toString());
        Check.due("PERSON 5", x.person(5, 0), 6);
        Check.refuses("PERSON 6", x, 6, 0);
    }

    private static void bookEdges() {
        Check.of("BOOK: '{ LINE ; }, 40 at most'");
        bookReads("", 0);
        bookReads(" \n", 0);
        bookReads(times("day 1;", 40), 40);
        bookFault(times("day 1;", 41), 4, 240);
        bookFault(times("day 1;", 40) + "\n ann crosses bb;", 4, 242);
        String[] starts = {"pact aa bb;", "break aa bb;", "close 1;", "open 1;", "lend aa bb 1;", "day 1;", "ann crosses bb;"};
        for (String start : starts) {
            bookFault(times("day 1;", 40) + start, 4, 240);
        }
        Check.of("BOOK: 'close' N | 'open' N (a ROAD: 0 to 11)");
        bookReads("close 0;", 1);
        bookReads("close 1;open 1;", 2);
        bookFault("close 12;", 2, 6);
        bookFault("open 12;", 2, 5);
        bookFault("close 999;", 2, 6);
        InchBorders x = Check.on(Check.THREE);
        Check.due("close 11 is read, and WRONG", Check.book(x, "close 11;", 0), 0);
        Check.due("close 11 is read, and WRONG", x.told(0), 31);
        Check.of("BOOK: 'lend' LAND LAND N (1 to 99)");
        bookFault("lend aa bb 0;", 2, 11);
        bookReads("lend aa bb 1;", 1);
        bookFault("lend aa bb 100;", 2, 11);
        Check.due("lend 99 is read, and WRONG", Check.book(x, "lend aa bb 99;", 0), 0);
        Check.due("lend 99 is read, and WRONG", x.told(0), 52);
        Check.of("BOOK: 'day' N (1 to 60)");
        bookFault("day 0;", 2, 4);
        bookReads("day 1;", 1);
        bookReads("day 60;", 1);
        bookFault("day 61;", 2, 4);
        Check.of("BOOK: NAMES");
        bookFault("aa crosses bb;", 3, 0);
        bookFault("zz crosses bb;", 3, 0);
        String[] lines = {"ann crosses @;", "pact @ aa;", "pact aa @;", "break @ aa;", "break aa @;", "lend @ aa 1;",
            "lend aa @ 1;"};
        for (String line : lines) {
            bookFault(line.replace("@", "bob"), 3, line.indexOf('@'));
            bookFault(line.replace("@", "zz"), 3, line.indexOf('@'));
            bookFault(line.replace("@", "day"), 1, line.indexOf('@'));
            bookFault(line.replace("@", "7"), 1, line.indexOf('@'));
        }
    }

    private static void sentenceEdges() {
        Check.of("SENTENCE: '20 ONES, 8 within one another'");
        sentenceReads(times("home or ", 19) + "home", 20);
        sentenceReads(times("home and ", 19) + "home", 20);
        sentenceReads(times("(home)or ", 9) + "(home)", 20);
        sentenceFault(times("home or ", 20) + "home", 4, 160);
        sentenceFault(times("home and ", 20) + "home", 4, 180);
        sentenceFault(times("home or home and ", 10) + "home", 4, 170);
        sentenceFault("(" + times("home and ", 19) + "home)", 4, 172);
        sentenceFault(times("(home)or ", 10) + "home", 4, 90);
        sentenceFault(times("(home)or ", 10) + "(home)", 4, 90);
        sentenceFault(times("(home)or ", 9) + "home or(home)", 4, 89);
        sentenceFault(times("home or ", 19) + "not home", 4, 156);
        sentenceReads(times("not ", 7) + "home", 8);
        sentenceReads(times("(", 7) + "home" + times(")", 7), 8);
        sentenceReads("not(not(not(not home)))", 8);
        sentenceFault(times("not ", 8) + "home", 4, 32);
        sentenceFault(times("not ", 9) + "home", 4, 32);
        sentenceFault(times("(", 8) + "home" + times(")", 8), 4, 8);
        sentenceFault(times("(", 7) + "home and not home" + times(")", 7), 4, 20);
        sentenceFault(times("(", 7) + "home or(home)" + times(")", 7), 4, 15);
        // What is beside another is not within it.
        sentenceReads(times("(", 6) + "home or not home and home" + times(")", 6), 10);
        sentenceReads("(((((((home)))))))and(((((((home)))))))", 16);
        Check.of("SENTENCE: one COND, all of it");
        sentenceFault("", 1, 0);
        sentenceFault("\n", 1, 1);
        sentenceFault("home home", 1, 5);
        sentenceFault("home)", 1, 4);
        sentenceFault("home;", 1, 4);
        sentenceFault("()", 1, 1);
        Check.of("SENTENCE: 'SIGN NUMBER'");
        for (String measure : new String[] {"length", "taken", "crossed", "number"}) {
            int n = measure.length();
            for (String sign : new String[] {"<", "=", ">"}) {
                sentenceReads(measure + sign + "0", 1);
                sentenceReads(measure + sign + "999", 1);
                sentenceFault(measure + sign + "1000", 1, n + 1);
                sentenceFault(measure + sign, 1, n + 1);
                sentenceFault(measure + sign + "=1", 1, n + 1);
                sentenceFault(measure + sign + "aa", 1, n + 1);
            }
            sentenceFault(measure + " 5", 1, n + 1);
            sentenceFault(measure + "(5", 1, n);
            sentenceFault(measure + ";", 1, n);
            sentenceFault(measure, 1, n);
        }
    }

    /** The TOKENS of a text, joined by blanks, with one of them taken off or put in another's stead. */
    private static String joined(List<String> tokens, int many, int at, String instead) {
        StringBuilder s = new StringBuilder();
        for (int k = 0; k < many; k++) {
            s.append(k == 0 ? "" : " ").append(k == at ? instead : tokens.get(k));
        }
        return s.toString();
    }

    private static List<String> tokensOf(String text) {
        List<String> tokens = new ArrayList<>();
        for (String part : text.replaceAll("([;<=>()])", " $1 ").trim().split("\\s+")) {
            tokens.add(part);
        }
        return tokens;
    }

    private static final String BOOK = "ann crosses bb;pact bb aa;break aa cc;close 2;open 2;lend bb aa 9;day 3;";
    private static final String SENTENCE = "not (home or in aa) and of bb or free cc and length < 30 or (stuck)";

    private static void cutTexts() {
        Check.of("1: 'the end: how many bytes there are'");
        List<String> map = tokensOf(Check.THREE);
        for (int n = 1; n <= map.size(); n++) {
            String text = joined(map, n, -1, "");
            if (!map.get(n - 1).equals(";")) {
                Check.mapFault(text, 1, text.length());
                Check.mapFault(text + " \n ", 1, text.length() + 3);
            } else {
                mapReads(text, (int) map.subList(0, n).stream().filter(";"::equals).count());
            }
        }
        List<String> book = tokensOf(BOOK);
        for (int n = 1; n <= book.size(); n++) {
            String text = joined(book, n, -1, "");
            if (!book.get(n - 1).equals(";")) {
                bookFault(text, 1, text.length());
                bookFault(text + " ", 1, text.length() + 1);
            }
        }
        List<String> sentence = tokensOf(SENTENCE);
        int whole = 0;
        for (int n = 1; n <= sentence.size(); n++) {
            String text = joined(sentence, n, -1, "");
            String last = sentence.get(n - 1);
            boolean open = n < 7 || text.lastIndexOf('(') > text.lastIndexOf(')');
            if (!open && (last.equals(")") || last.equals("30") || last.equals("bb") || last.equals("cc"))) {
                sentenceReads(text, new int[] {4, 5, 6, 7, 9}[whole]);
                whole++;
            } else {
                sentenceFault(text, 1, text.length());
                sentenceFault(text + "  ", 1, text.length() + 2);
            }
        }
        Check.due("whole ones", whole, 5);
    }

    private static boolean isNumber(String token) {
        return token.charAt(0) <= '9' && token.charAt(0) >= '0';
    }

    private static boolean isKept(String token) {
        for (String word : KEPT) {
            if (word.equals(token)) {
                return true;
            }
        }
        return false;
    }

    /** Which FAULT a TOKEN is that stands where another should, as far as that can be told of every text. */
    private static int kindOf(String due, String instead) {
        boolean name = !isKept(due) && due.charAt(0) >= 'a';
        if (isNumber(due) && instead.equals("999")) {
            return 2;
        }
        return name && instead.equals("zz") ? 3 : 1;
    }

    private static void otherTokens() {
        Check.of("1: 'no TOKEN, or one that can't come (at it)', 2: 'a NUMBER that is not as told (at it)', "
            + "3: 'a NAME .. not told'");
        String[] others = {";", "<", "=", ">", "(", ")", ".", "zz", "999", "1000", "A", "crosses", "abcdefgh", "a1"};
        List<String> map = tokensOf(Check.THREE);
        List<String> book = tokensOf(BOOK);
        List<String> sentence = tokensOf(SENTENCE);
        for (String other : others) {
            for (int k = 0; k < map.size(); k++) {
                boolean fresh = k > 0 && (map.get(k - 1).equals("land") || map.get(k - 1).equals("person"));
                if (!other.equals(map.get(k)) && !(fresh && other.equals("zz"))) {
                    Check.mapFault(joined(map, map.size(), k, other), kindOf(map.get(k), other),
                        joined(map, k, -1, "").length() + (k == 0 ? 0 : 1));
                }
            }
            for (int k = 0; k < book.size(); k++) {
                boolean first = k == 0 || book.get(k - 1).equals(";");
                if (!other.equals(book.get(k))) {
                    bookFault(joined(book, book.size(), k, other), first && other.equals("zz") ? 3
                        : kindOf(book.get(k), other), joined(book, k, -1, "").length() + (k == 0 ? 0 : 1));
                }
            }
            for (int k = 0; k < sentence.size(); k++) {
                boolean sign = sentence.get(k).equals("<") && (other.equals("=") || other.equals(">"));
                boolean bracket = other.equals("(") && (k == 0 || kept(sentence.get(k - 1)));
                boolean closes = other.equals(")") && joined(sentence, k, -1, "").equals("not ( home");
                boolean number = isNumber(sentence.get(k)) && other.equals("999");
                if (!other.equals(sentence.get(k)) && !sign && !bracket && !closes && !number) {
                    sentenceFault(joined(sentence, sentence.size(), k, other), kindOf(sentence.get(k), other),
                        joined(sentence, k, -1, "").length() + (k == 0 ? 0 : 1));
                }
            }
        }
    }

    /** Whether a ONE, and so a bracket, may come behind it. */
    private static boolean kept(String token) {
        return token.equals("not") || token.equals("(") || token.equals("or") || token.equals("and");
    }

    private static String to(String head, int place, String tail) {
        return head + times(" ", place - head.length()) + tail;
    }

    private static void mostBytes() {
        Check.of("'A MAP is a text of at most 900 bytes', 'the most bytes told, if there are more'");
        mapReads(to("land a 0 0;", 900, ""), 1);
        mapReads(to("land a 0 0", 899, ";"), 1);
        Check.mapFault(to("land a 0 0;", 901, ""), 1, 900);
        Check.mapFault(to("land a 0 0;", 940, ""), 1, 900);
        Check.mapFault(to("land a 0 0", 900, ";"), 1, 900);
        Check.mapFault(to("land a 0 0", 899, ";\n"), 1, 900);
        Check.mapFault(to("land a 0", 940, ""), 1, 900);
        Check.of("MAP: 'TOKENS that begin ahead of it are read whole', 'and no FAULT is ahead'");
        Check.mapFault(to("land a 0", 899, "20;"), 1, 900);
        Check.mapFault(to("land a 0", 899, "21;"), 2, 899);
        Check.mapFault(to("land a 0", 899, "2000;"), 1, 899);
        Check.mapFault(to("land a 0", 898, "0;?"), 1, 900);
        Check.mapFault(to("land a 0 0;land", 899, "aa 0 0;"), 1, 900);
        Check.mapFault(to("land aa 0 0;land", 899, "aa 0 0;"), 3, 899);
        Check.mapFault(to("land a 0 0;", 899, "home"), 1, 899);
        Check.mapFault(to("land a 0 0;", 899, "land"), 1, 900);
        Check.mapFault(to("land a 0 0;", 899, "landx"), 1, 899);
        StringBuilder lands = new StringBuilder();
        for (char c = 'a'; c < 'h'; c++) {
            lands.append("land ").append(c).append(" 0 0;");
        }
        Check.mapFault(to(lands.toString(), 899, "land"), 4, 899);
        Check.mapFault(to(lands.toString(), 900, "land"), 1, 900);
        Check.mapFault(to("land a 21 0;", 940, ""), 2, 7);
        Check.of("BOOK: 'at most 400 bytes'");
        bookReads(to("day 1;", 400, ""), 1);
        bookReads(to("day 1", 399, ";"), 1);
        bookFault(to("day 1;", 401, ""), 1, 400);
        bookFault(to("day 1;", 940, ""), 1, 400);
        bookFault(to("day 1", 400, ";"), 1, 400);
        bookFault(to("day", 399, "60;"), 1, 400);
        bookFault(to("day", 399, "61;"), 2, 399);
        bookFault(to("day", 399, "0600;"), 1, 399);
        bookFault(to("day 1;", 399, "ann crosses bb;"), 1, 400);
        bookFault(to("day 1;", 399, "zz crosses bb;"), 3, 399);
        bookFault(to(times("day 1;", 40), 399, "day 1;"), 4, 399);
        bookFault(to(times("day 1;", 40), 400, "day 1;"), 1, 400);
        Check.of("SENTENCE: 'at most 200 bytes'");
        sentenceReads(to("home", 200, ""), 1);
        sentenceReads(to("", 196, "home"), 1);
        sentenceReads(to("(home", 199, ")"), 2);
        sentenceFault(to("home", 201, ""), 1, 200);
        sentenceFault(to("home", 940, ""), 1, 200);
        sentenceFault(to("", 197, "home"), 1, 200);
        sentenceFault(to("(home", 200, ")"), 1, 200);
        sentenceFault(to("in", 199, "aa"), 1, 200);
        sentenceFault(to("in", 199, "zz"), 3, 199);
        sentenceFault(to("length <", 199, "1000"), 1, 199);
        sentenceFault(to(times("not ", 8), 199, "home"), 4, 199);
        sentenceFault(to(times("not ", 8), 200, "home"), 1, 200);
    }

    private static void firstAlong() {
        Check.of("'FAULTS, the first along the text'");
        Check.mapFault("land a 21 21;land a 0 0;?", 2, 7);
        Check.mapFault("land a 0 0;land a 21 0;", 3, 16);
        Check.mapFault("land a 0 0;store a 100;store b 100;", 2, 19);
        Check.mapFault(TWO + "road a a 241 0;", 3, 29);
        Check.mapFault(TWO + "road a b 241 0;", 2, 31);
        Check.mapFault(TWO + "road a b 5 4?", 2, 33);
        bookFault("day 61;zz crosses bb;", 2, 4);
        bookFault("zz day 61;", 3, 0);
        bookFault("day 1;?day 61;", 1, 6);
        sentenceFault("in zz and ?", 3, 3);
        sentenceFault("home ? in zz", 1, 5);
        Check.of("'(a LINE's FAULT is ahead of what is WRONG with any)'");
        bookFault("open 0;day 61;", 2, 11);
    }

    private static void leastOfOne() {
        Check.of("'of one TOKEN the least'");
        bookFault(times("day 1;", 40) + "zz crosses bb;", 3, 240);
        bookFault(times("day 1;", 40) + "aa crosses bb;", 3, 240);
        bookFault(times("day 1;", 40) + ";", 1, 240);
        bookFault(times("day 1;", 40) + "home", 1, 240);
        bookFault(times("day 1;", 40) + "7", 1, 240);
        sentenceFault(times("home or ", 20) + "aa", 1, 160);
        sentenceFault(times("home or ", 20) + ")", 1, 160);
        sentenceFault(times("home or ", 20), 1, 160);
        sentenceFault(times("not ", 8) + "aa", 1, 32);
        sentenceFault(times("not ", 8), 1, 32);
        sentenceFault(times("(", 8) + ")", 1, 8);
        Check.mapFault("land a 0 0;land 0000 0 0;", 1, 16);
    }
}
