import java.util.ArrayList;
import java.util.Arrays;
import java.util.List;
import java.util.Random;

/** Random runs of calls, each answer held against that of the model. */
public final class ModelTest {
    private static final String[] NAMES = {"aa", "bb", "cc", "dd", "ee", "ff", "gg"};
    private static final String[] FOLK = {"p", "q", "r", "s", "t", "u"};

    private final Random random;
    private final InchBorders x = new InchBorders();
    private final Model m = new Model();
    private final List<String> log = new ArrayList<>();
    private int calls = 0;

    private ModelTest(long seed) {
        random = new Random(seed);
    }

    public static void main(String[] args) {
        int runs = args.length > 0 ? Integer.parseInt(args[0]) : 2000;
        int from = args.length > 1 ? Integer.parseInt(args[1]) : 1;
        for (int k = from; k < from + runs; k++) {
            ModelTest t = new ModelTest(k);
            try {
                t.run();
            } catch (AssertionError e) {
                System.out.println("run " + k + ": " + String.join("\n  ", t.log) + "\n" + e.getMessage());
                System.exit(1);
            }
        }
        System.out.println(runs + " random runs are as due");
    }

    private void same(String call, long got, long want) {
        calls++;
        log.add(call + " -> " + got);
        if (got != want) {
            throw new AssertionError(call + " answered " + got + ", the model " + want);
        }
    }

    private int upTo(int n) {
        return random.nextInt(n + 1);
    }

    private String pick(String... of) {
        return of[random.nextInt(of.length)];
    }

    private String fed(String text) {
        Check.tape(x, text);
        calls += 2 + text.length() / 20;
        log.add("TAPE " + text);
        return text;
    }

    private void run() {
        readMap(random.nextInt(10) == 0);
        if (random.nextInt(8) == 0) {
            goLate();
        }
        while (calls < 380) {
            act();
            if (random.nextInt(16) == 0) {
                look();
            }
        }
        look();
    }

    /** Where few DAYS are left. */
    private void goLate() {
        for (int k = 0; k < 6; k++) {
            daysGo(60);
        }
        daysGo(1 + random.nextInt(40));
    }

    private void readMap(boolean spoils) {
        String text = spoils ? spoilt(mapText()) : mapText();
        if (text.length() <= 940) {
            fed(text);
            same("map()", x.map(), m.map(text));
            same("fault()", x.fault(), m.fault);
            same("count(3)", x.count(3), 0);
        }
    }

    private String mapText() {
        StringBuilder s = new StringBuilder();
        int lands = random.nextInt(30) == 0 ? upTo(1) : 3 + random.nextInt(5);
        boolean steep = random.nextBoolean();
        for (int l = 0; l < lands; l++) {
            s.append("land ").append(NAMES[l]).append(' ').append(upTo(steep ? 20 : 5)).append(' ')
                .append(upTo(steep ? 20 : 6)).append(';');
            if (random.nextInt(3) > 0) {
                s.append("store ").append(NAMES[l]).append(' ').append(upTo(random.nextBoolean() ? 99 : 9)).append(';');
            }
        }
        boolean stiles = random.nextBoolean();
        boolean[][] told = new boolean[lands][lands];
        int roads = lands < 2 ? 0 : random.nextInt(4) == 0 ? random.nextInt(14) : 8 + random.nextInt(5);
        for (int r = 0, n = 0; r < 40 && n < Math.min(roads, 12); r++) {
            int a = random.nextInt(lands);
            int b = random.nextInt(lands);
            if (a != b && !told[a][b]) {
                told[a][b] = true;
                told[b][a] = true;
                n++;
                int low = stiles ? upTo(30) : upTo(3);
                s.append("road ").append(NAMES[a]).append(' ').append(NAMES[b]).append(' ').append(low).append(' ')
                    .append(stiles ? low + 40 + upTo(170) : 240 - upTo(5)).append(";\n");
            }
        }
        for (int a = 0; a < lands; a++) {
            for (int b = 0; b < lands; b++) {
                if (a != b && random.nextInt(5) == 0) {
                    s.append("treaty ").append(NAMES[a]).append(' ').append(NAMES[b]).append(';');
                }
            }
        }
        int persons = lands == 0 ? 0 : random.nextInt(30) == 0 ? 0 : 1 + random.nextInt(6);
        for (int p = 0; p < persons; p++) {
            s.append("person ").append(FOLK[p]).append(' ').append(NAMES[random.nextInt(lands)]).append(' ')
                .append(1 + random.nextInt(random.nextBoolean() ? 240 : 40)).append(';');
        }
        return s.toString();
    }

    private String spoilt(String text) {
        StringBuilder s = new StringBuilder(text);
        int changes = 1 + random.nextInt(2);
        for (int k = 0; k < changes; k++) {
            int at = random.nextInt(s.length() + 1);
            switch (random.nextInt(5)) {
                case 0:
                    s.setLength(at);
                    break;
                case 1:
                    s.insert(at, pick(" ", "\n", ";", "(", ")", "<", ".", "z", "9", "A", "\t", "\u00e9"));
                    break;
                case 2:
                    if (at < s.length()) {
                        s.deleteCharAt(at);
                    }
                    break;
                case 3:
                    swapWord(s);
                    break;
                default:
                    s.append(pick(" ", ";", "land h 0 0;", "person v aa 3;", "store aa 3;", "road aa bb 0 1;",
                        "day 1;", "treaty aa bb;", "p crosses aa;", " and home", " or not home"));
            }
        }
        return s.toString();
    }

    private void swapWord(StringBuilder s) {
        String[] words = s.toString().split("(?<=[ ;])");
        if (words.length == 0) {
            return;
        }
        int k = random.nextInt(words.length);
        String end = words[k].endsWith(";") ? ";" : " ";
        words[k] = pick("aa", "bb", "zz", "p", "q", "land", "store", "road", "treaty", "person", "0", "007", "12", "21",
            "99", "100", "240", "241", "1000", "crosses", "home", "or", "abcdefg", "abcdefgh", "a1", "day", "pact") + end;
        s.setLength(0);
        s.append(String.join("", words));
    }

    private int anyLand() {
        int lands = m.world.lands.size();
        return random.nextInt(40) == 0 || lands == 0 ? upTo(9) - 2 : random.nextInt(lands);
    }

    private int anyPerson() {
        int persons = m.world.of.size();
        return random.nextInt(40) == 0 || persons == 0 ? upTo(8) - 2 : random.nextInt(persons);
    }

    private boolean isLand(int l) {
        return l >= 0 && l < m.world.lands.size();
    }

    private boolean isPerson(int p) {
        return p >= 0 && p < m.world.of.size();
    }

    private void act() {
        switch (random.nextInt(26)) {
            case 0: case 1: case 2: case 3: case 4: cross(); break;
            case 5: case 6: treaties(); break;
            case 7: roads(); break;
            case 8: lend(); break;
            case 9: days(); break;
            case 10: case 11: undo(); break;
            case 12: way(); break;
            case 13: round(); break;
            case 14: spare(); break;
            case 15: made(); break;
            case 16: caravan(); break;
            case 17: part(); break;
            case 18: passes(); break;
            case 19: drawn(); break;
            case 20: case 21: book(); break;
            case 22: case 23: sentence(); break;
            case 24: images(); break;
            default: if (random.nextInt(4) == 0) { readMap(random.nextInt(4) > 0); }
        }
    }

    private void keepIf(boolean done, Model.World before) {
        if (done) {
            m.keep(before);
        }
    }

    private void cross() {
        int p = anyPerson();
        int l = anyLand();
        Model.World before = m.world.copy();
        int want = isPerson(p) && isLand(l) ? m.world.cross(p, l) : -1;
        keepIf(want == 0, before);
        same("cross(" + p + ", " + l + ")", x.cross(p, l), want);
    }

    private void treaties() {
        int a = anyLand();
        int b = anyLand();
        Model.World before = m.world.copy();
        boolean pact = random.nextBoolean();
        int want = !isLand(a) || !isLand(b) ? -1 : pact ? m.world.pact(a, b) : m.world.breaks(a, b);
        keepIf(want == 0, before);
        same((pact ? "pact(" : "breaks(") + a + ", " + b + ")", pact ? x.pact(a, b) : x.breaks(a, b), want);
    }

    private void roads() {
        int r = random.nextInt(14) - 1;
        Model.World before = m.world.copy();
        boolean close = random.nextInt(3) > 0;
        int want = r < 0 || r > 11 ? -1 : close ? m.world.close(r) : m.world.open(r);
        keepIf(want == 0, before);
        same((close ? "close(" : "open(") + r + ")", close ? x.close(r) : x.open(r), want);
    }

    private void lend() {
        int a = anyLand();
        int b = anyLand();
        int n = random.nextInt(6) == 0 ? pickOf(0, 99, 100, -5) : 1 + random.nextInt(12);
        Model.World before = m.world.copy();
        int want = isLand(a) && isLand(b) && n >= 1 && n <= 99 ? m.world.lend(a, b, n) : -1;
        keepIf(want == 0, before);
        same("lend(" + a + ", " + b + ", " + n + ")", x.lend(a, b, n), want);
    }

    private int pickOf(int... of) {
        return of[random.nextInt(of.length)];
    }

    private void days() {
        daysGo(random.nextInt(3) == 0 ? pickOf(0, 60, 61, 59) : 1 + random.nextInt(20));
    }

    private void daysGo(int n) {
        Model.World before = m.world.copy();
        int want = -1;
        if (n >= 1 && n <= 60) {
            for (want = 0; want < n && m.world.day < 400; want++) {
                m.world.goDay();
            }
        }
        keepIf(want > 0, before);
        same("days(" + n + ")", x.days(n), want);
    }

    private void undo() {
        same("undo()", x.undo(), m.undo());
    }

    private int lengthNear(int p) {
        int base = isPerson(p) ? m.world.of.get(p)[2] : 10;
        return random.nextInt(10) == 0 ? pickOf(-1, 0, 240, 241) : Math.max(0, base + random.nextInt(16) - 9);
    }

    private void way() {
        int p = anyPerson();
        int l = anyLand();
        int n = lengthNear(p);
        int want = isPerson(p) && isLand(l) && n >= 0 && n <= 240 ? m.way(p, l, n) : -1;
        same("way(" + p + ", " + l + ", " + n + ")", x.way(p, l, n), want);
        for (int k = -1; k < 6; k++) {
            same("wayAt(" + k + ")", x.wayAt(k), k >= 0 && k < m.way.size() ? m.way.get(k) : -1);
        }
    }

    private void round() {
        int p = anyPerson();
        same("round(" + p + ")", x.round(p), isPerson(p) ? m.round(p) : -1);
    }

    private void spare() {
        int p = anyPerson();
        int l = anyLand();
        int n = lengthNear(p);
        int want = isPerson(p) && isLand(l) && n >= 0 && n <= 240 ? m.spare(p, l, n) : -1;
        same("spare(" + p + ", " + l + ", " + n + ")", x.spare(p, l, n), want);
        same("spared()", x.spared(), m.spared);
    }

    private void made() {
        int p = anyPerson() & 255;
        int n = lengthNear(p) & 255;
        String text = "" + (char) p + (char) n;
        if (random.nextInt(8) == 0) {
            text = pick("", text + "a", text.substring(1));
        }
        fed(text);
        int want = text.length() == 2 && isPerson(p) ? m.made(p, n) : -1;
        same("made() of " + p + ", " + n, x.made(), want);
        same("likely()", x.likely(), m.likely);
        for (int k = -1; k < 5; k++) {
            same("madeAt(" + k + ")", x.madeAt(k), k >= 0 && k < m.made.size() ? m.made.get(k) : -1);
        }
    }

    private void caravan() {
        int l = anyLand();
        same("caravan(" + l + ")", x.caravan(l), isLand(l) ? m.caravan(l) : -1);
        for (int k = -1; k < 7; k++) {
            same("caravanAt(" + k + ")", x.caravanAt(k), k >= 0 && k < m.caravan.size() ? m.caravan.get(k) : -1);
        }
    }

    private void part() {
        int a = anyLand();
        int b = anyLand();
        same("part(" + a + ", " + b + ")", x.part(a, b), isLand(a) && isLand(b) && a != b ? m.part(a, b) : -1);
        same("parting()", x.parting(), m.parting);
        same("rests()", x.rests(), m.rests());
    }

    private void passes() {
        int p = anyPerson();
        same("pass(" + p + ")", x.pass(p), isPerson(p) ? m.pass(p) : -1);
        for (int i : new int[] {-1, 0, upTo(30), m.pass.length() - 1, m.pass.length()}) {
            same("byteAt(" + i + ")", x.byteAt(i), i >= 0 && i < m.pass.length() ? m.pass.charAt(i) : -1);
        }
    }

    private void drawn() {
        int n = random.nextInt(4) == 0 ? pickOf(0, 30, 60, 61) : 1 + random.nextInt(9);
        int seed = random.nextInt();
        int p = anyPerson();
        int many = pickOf(0, 1, 7, 30, 31);
        same("odds(" + p + ", " + many + ", " + seed + ")", x.odds(p, many, seed),
            isPerson(p) && many >= 1 && many <= 30 ? m.odds(p, many, seed) : -1);
        Model.World before = m.world.copy();
        int want = n >= 1 && n <= 60 && !m.world.lands.isEmpty() ? m.world.drawn(n, seed) : -1;
        keepIf(want > 0, before);
        same("drawn(" + n + ", " + seed + ")", x.drawn(n, seed), want);
    }

    private String someLand() {
        int lands = m.world.lands.size();
        return lands == 0 || random.nextInt(60) == 0 ? pick("aa", "zz") : m.world.lands.get(random.nextInt(lands));
    }

    private String somePerson() {
        int persons = m.world.persons.size();
        return persons == 0 || random.nextInt(60) == 0 ? pick("p", "zz") : m.world.persons.get(random.nextInt(persons));
    }

    private String bookText() {
        StringBuilder s = new StringBuilder();
        int lines = random.nextInt(20) == 0 ? 39 + random.nextInt(4) : random.nextInt(9);
        for (int k = 0; k < lines; k++) {
            switch (lines > 20 ? 7 : random.nextInt(10)) {
                case 0: s.append("pact ").append(someLand()).append(' ').append(someLand()); break;
                case 1: s.append("break ").append(someLand()).append(' ').append(someLand()); break;
                case 2: s.append("close ").append(random.nextInt(13)); break;
                case 3: s.append("open ").append(random.nextInt(12)); break;
                case 4: s.append("lend ").append(someLand()).append(' ').append(someLand()).append(' ')
                    .append(random.nextInt(12)); break;
                case 5: s.append("day ").append(1 + random.nextInt(random.nextInt(4) == 0 ? 61 : 9)); break;
                case 7: s.append("day 1"); break;
                default: s.append(somePerson()).append(" crosses ").append(someLand());
            }
            s.append(pick(";", " ; ", ";\n"));
        }
        return s.toString();
    }

    private void book() {
        String text = bookText();
        text = random.nextInt(3) == 0 ? spoilt(text) : text;
        if (text.length() > 900) {
            return;
        }
        fed(text);
        int lives = random.nextInt(12) == 0 ? pickOf(-1, 2) : random.nextInt(2);
        int want = lives < 0 || lives > 1 ? -1000 : m.book(text, lives);
        same("book(" + lives + ")", x.book(lives), want);
        same("count(3)", x.count(3), want == -1000 ? text.length() : 0);
        same("fault()", x.fault(), m.fault);
        for (int k = -1; k < 5; k++) {
            same("told(" + k + ")", x.told(k), k >= 0 && k < 4 ? m.told[k] : -1);
        }
    }

    private String cond(int depth) {
        StringBuilder s = new StringBuilder();
        int more = random.nextInt(3);
        for (int k = 0; k <= more; k++) {
            s.append(k == 0 ? "" : pick(" or ", " and "));
            int which = random.nextInt(depth > 9 ? 10 : 14);
            if (which >= 12) {
                s.append("not ").append(cond(depth + 1));
            } else if (which >= 10) {
                s.append(pick("(", "( ")).append(cond(depth + 1)).append(')');
            } else if (which >= 6) {
                s.append(pick("length", "taken", "crossed", "number")).append(pick("<", " = ", "> "))
                    .append(random.nextBoolean() ? lengthNear(0) & 255 : random.nextInt(5));
            } else if (which >= 2) {
                s.append(pick("in ", "of ", "free ")).append(someLand());
            } else {
                s.append(pick("home", "stuck"));
            }
        }
        return s.toString();
    }

    private String deepText() {
        StringBuilder s = new StringBuilder();
        int deep = 6 + random.nextInt(4);
        boolean bracket = random.nextBoolean();
        for (int k = 0; k < deep; k++) {
            s.append(bracket ? "(" : "not ");
        }
        s.append("home");
        for (int k = 0; k < deep && bracket; k++) {
            s.append(")");
        }
        return s.toString();
    }

    private void sentence() {
        if (random.nextInt(3) > 0) {
            String text = random.nextInt(6) == 0 ? deepText() : cond(1);
            text = random.nextInt(3) == 0 ? spoilt(text) : text;
            if (text.length() > 900) {
                return;
            }
            fed(text);
            same("sentence()", x.sentence(), m.sentence(text));
            same("fault()", x.fault(), m.fault);
        }
        for (int k : new int[] {-2, -1, 0, 1, 2, 5, 6}) {
            same("said(" + k + ")", x.said(k), m.said(k));
        }
    }

    private void images() {
        int k = random.nextInt(10) == 0 ? pickOf(-1, 2) : random.nextInt(2);
        boolean place = k == 0 || k == 1;
        if (random.nextBoolean()) {
            if (place) {
                m.images[k] = m.world.copy();
                m.imageSaid[k] = m.said;
            }
            same("image(" + k + ")", x.image(k) ? 1 : 0, place ? 1 : 0);
        } else {
            boolean kept = place && m.images[k] != null;
            if (kept) {
                m.world = m.images[k].copy();
                m.said = m.imageSaid[k];
                m.past.clear();
            }
            same("restore(" + k + ")", x.restore(k) ? 1 : 0, kept ? 1 : 0);
        }
    }

    private void look() {
        Model.World w = m.world;
        same("count(0)", x.count(0), w.lands.size());
        same("count(1)", x.count(1), w.roads.size());
        same("count(2)", x.count(2), w.of.size());
        int l = anyLand();
        for (int k = -1; k < 6; k++) {
            same("land(" + l + ", " + k + ")", x.land(l, k), isLand(l) ? landOf(w, l, k) : -1);
        }
        int r = random.nextInt(13) - 1;
        for (int k = -1; k < 6; k++) {
            boolean there = r >= 0 && r < w.roads.size() && k >= 0 && k < 5;
            int want = !there ? -1 : k == 4 ? (w.closed.contains(r) ? 1 : 0) : w.roads.get(r)[k];
            same("road(" + r + ", " + k + ")", x.road(r, k), want);
        }
        for (int p = 0; p < w.of.size(); p++) {
            for (int k = 0; k < 7; k++) {
                same("person(" + p + ", " + k + ")", x.person(p, k), k == 6 ? w.whither(p) : w.of.get(p)[k]);
            }
        }
        for (int k = -1; k < 9; k++) {
            same("now(" + k + ")", x.now(k), nowOf(w, k));
        }
    }

    private static int landOf(Model.World w, int l, int k) {
        int bits = 0;
        switch (k) {
            case 0: case 1: return w.landTold.get(l)[k];
            case 2: return w.stores.get(l);
            case 3:
                for (int b = 0; b < w.lands.size(); b++) {
                    bits |= w.treaties.contains(Arrays.asList(l, b)) ? 1 << b : 0;
                }
                return bits;
            case 4:
                for (int p = 0; p < w.of.size(); p++) {
                    bits |= w.of.get(p)[1] == l ? 1 << p : 0;
                }
                return bits;
            default: return -1;
        }
    }

    private static int nowOf(Model.World w, int k) {
        int bits = 0;
        switch (k) {
            case 0: return w.day;
            case 1: return w.lengths();
            case 2: return w.stores.stream().mapToInt(n -> n).sum();
            case 3: return w.of.stream().mapToInt(o -> o[5]).sum();
            case 4: return w.closed.stream().mapToInt(r -> 1 << r).sum();
            case 5:
                for (int p = 0; p < w.of.size(); p++) {
                    bits |= w.of.get(p)[0] == w.of.get(p)[1] ? 1 << p : 0;
                }
                return bits;
            case 6:
                for (int p = 0; p < w.of.size(); p++) {
                    bits |= w.whither(p) == 0 ? 1 << p : 0;
                }
                return bits;
            case 7: return w.treaties.size();
            default: return -1;
        }
    }
}
