import java.util.ArrayList;
import java.util.Arrays;
import java.util.Collections;
import java.util.Comparator;
import java.util.HashMap;
import java.util.HashSet;
import java.util.List;
import java.util.Map;
import java.util.Set;

/** A second telling of the document, by the plainest means: whole worlds are copied, rows are listed, sets are tried. */
final class Model {
    static final Set<String> KEPT = new HashSet<>(Arrays.asList("land", "store", "road", "treaty", "person", "crosses",
        "pact", "break", "close", "open", "lend", "day", "or", "and", "not", "home", "stuck", "in", "of", "free",
        "length", "taken", "crossed", "number"));

    static final class Fault extends Exception {
        private static final long serialVersionUID = 1;
        final int kind;
        final int place;

        Fault(int kind, int place) {
            this.kind = kind;
            this.place = place;
        }
    }

    static final class World {
        List<String> lands = new ArrayList<>();
        List<int[]> landTold = new ArrayList<>();
        List<Integer> stores = new ArrayList<>();
        List<int[]> roads = new ArrayList<>();
        Set<Integer> closed = new HashSet<>();
        Set<List<Integer>> treaties = new HashSet<>();
        List<String> persons = new ArrayList<>();
        /** home, at, length, taken, given, crossed. */
        List<int[]> of = new ArrayList<>();
        int day;

        World copy() {
            World w = new World();
            w.lands = lands;
            w.landTold = landTold;
            w.roads = roads;
            w.persons = persons;
            w.stores = new ArrayList<>(stores);
            w.closed = new HashSet<>(closed);
            w.treaties = new HashSet<>(treaties);
            for (int[] o : of) {
                w.of.add(o.clone());
            }
            w.day = day;
            return w;
        }

        int roadOf(int a, int b) {
            for (int r = 0; r < roads.size(); r++) {
                int[] t = roads.get(r);
                if (t[0] == a && t[1] == b || t[0] == b && t[1] == a) {
                    return r;
                }
            }
            return -1;
        }

        boolean isSpared(int p, int l) {
            return treaties.contains(Arrays.asList(of.get(p)[0], l));
        }

        int cross(int p, int l) {
            int[] o = of.get(p);
            int r = roadOf(o[1], l);
            if (r < 0) {
                return 1;
            }
            if (closed.contains(r)) {
                return 2;
            }
            if (o[2] < roads.get(r)[2]) {
                return 3;
            }
            if (o[2] > roads.get(r)[3]) {
                return 4;
            }
            if (o[0] == l) {
                int gift = Collections.min(Arrays.asList(landTold.get(l)[1], stores.get(l), 240 - o[2]));
                o[2] += gift;
                o[4] += gift;
                stores.set(l, stores.get(l) - gift);
            } else if (!isSpared(p, l)) {
                int toll = landTold.get(l)[0];
                if (toll >= o[2]) {
                    return 5;
                }
                o[2] -= toll;
                o[3] += toll;
                stores.set(l, stores.get(l) + toll);
            }
            o[1] = l;
            o[5]++;
            return 0;
        }

        boolean goDay() {
            boolean grown = false;
            for (int[] o : of) {
                if (o[0] == o[1] && o[2] < 240 && stores.get(o[0]) > 0) {
                    stores.set(o[0], stores.get(o[0]) - 1);
                    o[2]++;
                    grown = true;
                }
            }
            day++;
            return grown;
        }

        int lengths() {
            return of.stream().mapToInt(o -> o[2]).sum();
        }

        int whither(int p) {
            int bits = 0;
            for (int l = 0; l < lands.size(); l++) {
                if (copy().cross(p, l) == 0) {
                    bits |= 1 << l;
                }
            }
            return bits;
        }

        int pact(int a, int b) {
            if (a == b) {
                return 1;
            }
            return treaties.add(Arrays.asList(a, b)) ? 0 : 2;
        }

        int breaks(int a, int b) {
            return treaties.remove(Arrays.asList(a, b)) ? 0 : 1;
        }

        int close(int r) {
            if (r >= roads.size()) {
                return 1;
            }
            return closed.add(r) ? 0 : 2;
        }

        int open(int r) {
            if (r >= roads.size()) {
                return 1;
            }
            return closed.remove(r) ? 0 : 2;
        }

        int lend(int a, int b, int n) {
            if (a == b) {
                return 1;
            }
            if (stores.get(a) < n) {
                return 2;
            }
            stores.set(a, stores.get(a) - n);
            stores.set(b, stores.get(b) + n);
            return 0;
        }

        int drawn(int n, int seed) {
            int[] x = {seed};
            int gone = 0;
            for (; gone < n && day < 400; gone++) {
                if (draw(x, 4) == 0 && !roads.isEmpty()) {
                    int r = draw(x, roads.size());
                    if (close(r) == 2) {
                        open(r);
                    }
                }
                for (int p = 0; p < of.size(); p++) {
                    cross(p, draw(x, lands.size()));
                }
                goDay();
            }
            return gone;
        }

        private static int draw(int[] x, int n) {
            x[0] = x[0] * 1103515245 + 12345;
            return (x[0] >>> 8) % n;
        }
    }

    private static final class Token {
        final String text;
        final int place;

        Token(String text, int place) {
            this.text = text;
            this.place = place;
        }
    }

    /** TOKENS; one that is none has the text "?", the end "". */
    private static List<Token> tokens(String text, int most) {
        List<Token> found = new ArrayList<>();
        int i = 0;
        while (true) {
            while (i < text.length() && (text.charAt(i) == ' ' || text.charAt(i) == '\n')) {
                i++;
            }
            if (text.length() > most && i >= most) {
                found.add(new Token("?", most));
                return found;
            }
            if (i == text.length()) {
                found.add(new Token("", i));
                return found;
            }
            int j = i;
            while (j < text.length() && String.valueOf(text.charAt(j)).matches("[a-z0-9]")) {
                j++;
            }
            String run = text.substring(i, Math.max(j, i + 1));
            boolean told = run.matches("[a-z]{1,7}|[0-9]{1,3}|[;<=>()]");
            found.add(new Token(told ? run : "?", i));
            i = Math.max(j, i + 1);
        }
    }

    World world = new World();
    SentenceNode said;
    int fault;
    final List<World> past = new ArrayList<>();
    final World[] images = new World[2];
    final SentenceNode[] imageSaid = new SentenceNode[2];
    int[] told = {-1, -1, -1, -1};
    List<Integer> way = new ArrayList<>();
    int spared = -1;
    List<Integer> made = new ArrayList<>();
    int likely = -1;
    List<Integer> caravan = new ArrayList<>();
    int parting = -1;
    String pass = "";

    private List<Token> line;
    private int next;

    private Token peek() {
        return line.get(Math.min(next, line.size() - 1));
    }

    private Token pop() {
        Token t = peek();
        next++;
        return t;
    }

    private void expect(String text) throws Fault {
        Token t = pop();
        if (!t.text.equals(text)) {
            throw new Fault(1, t.place);
        }
    }

    private int number(int least, int most) throws Fault {
        Token t = pop();
        if (!t.text.matches("[0-9]+")) {
            throw new Fault(1, t.place);
        }
        int n = Integer.parseInt(t.text);
        if (n < least || n > most) {
            throw new Fault(2, t.place);
        }
        return n;
    }

    private String name() throws Fault {
        Token t = pop();
        if (!t.text.matches("[a-z]+") || KEPT.contains(t.text)) {
            throw new Fault(1, t.place);
        }
        return t.text;
    }

    private int landIn(World w) throws Fault {
        int place = peek().place;
        int l = w.lands.indexOf(name());
        if (l < 0) {
            throw new Fault(3, place);
        }
        return l;
    }

    int map(String text) {
        try {
            World w = new World();
            int lines = readMap(text, w);
            world = w;
            said = null;
            past.clear();
            fault = 0;
            return lines;
        } catch (Fault f) {
            fault = f.kind;
            return -1 - f.place;
        }
    }

    private int readMap(String text, World w) throws Fault {
        line = tokens(text, 900);
        next = 0;
        int lines = 0;
        Set<Integer> stored = new HashSet<>();
        Map<String, Integer> limits = new HashMap<>();
        limits.put("land", 7);
        limits.put("road", 12);
        limits.put("person", 6);
        Map<String, Integer> seen = new HashMap<>();
        while (!peek().text.isEmpty()) {
            Token first = pop();
            if (!Arrays.asList("land", "store", "road", "treaty", "person").contains(first.text)) {
                throw new Fault(1, first.place);
            }
            int many = seen.merge(first.text, 1, Integer::sum);
            if (many > limits.getOrDefault(first.text, 1000)) {
                throw new Fault(4, first.place);
            }
            int place = peek().place;
            if (first.text.equals("land") || first.text.equals("person")) {
                String name = name();
                if (w.lands.contains(name) || w.persons.contains(name)) {
                    throw new Fault(3, place);
                }
                if (first.text.equals("land")) {
                    int take = number(0, 20);
                    int give = number(0, 20);
                    w.lands.add(name);
                    w.landTold.add(new int[] {take, give});
                    w.stores.add(0);
                } else {
                    int home = landIn(w);
                    w.of.add(new int[] {home, home, number(1, 240), 0, 0, 0});
                    w.persons.add(name);
                }
            } else {
                int a = landIn(w);
                int second = peek().place;
                if (first.text.equals("store")) {
                    if (!stored.add(a)) {
                        throw new Fault(3, place);
                    }
                    w.stores.set(a, number(0, 99));
                } else if (first.text.equals("road")) {
                    int b = landIn(w);
                    if (a == b || w.roadOf(a, b) >= 0) {
                        throw new Fault(3, second);
                    }
                    int low = number(0, 240);
                    w.roads.add(new int[] {a, b, low, number(low, 240)});
                } else {
                    int b = landIn(w);
                    if (w.pact(a, b) != 0) {
                        throw new Fault(3, second);
                    }
                }
            }
            expect(";");
            lines++;
        }
        return lines;
    }

    void keep(World before) {
        past.add(before);
        if (past.size() > 8) {
            past.remove(0);
        }
    }

    int undo() {
        if (past.isEmpty()) {
            return -1;
        }
        world = past.remove(past.size() - 1);
        return past.size();
    }

    int book(String text, int lives) {
        List<Object[]> acts;
        try {
            acts = readBook(text);
        } catch (Fault f) {
            fault = f.kind;
            return -2 - f.place;
        }
        fault = 0;
        World w = world.copy();
        int k = 0;
        int why = 0;
        while (k < acts.size() && why == 0) {
            why = live(w, acts.get(k));
            k += why == 0 ? 1 : 0;
        }
        told = new int[] {why, k, w.day, w.lengths()};
        if (lives == 1 && k > 0) {
            keep(world);
            world = w;
        }
        return why == 0 ? -1 : k;
    }

    private static int coded(int ten, int why) {
        return why == 0 ? 0 : ten * 10 + why;
    }

    private static int live(World w, Object[] act) {
        int a = (Integer) act[1];
        int b = (Integer) act[2];
        int n = (Integer) act[3];
        switch ((String) act[0]) {
            case "crosses": return w.cross(a, b);
            case "pact": return coded(1, w.pact(a, b));
            case "break": return coded(2, w.breaks(a, b));
            case "close": return coded(3, w.close(n));
            case "open": return coded(4, w.open(n));
            case "lend": return coded(5, w.lend(a, b, n));
            default:
                if (w.day + n > 400) {
                    return 61;
                }
                for (int d = 0; d < n; d++) {
                    w.goDay();
                }
                return 0;
        }
    }

    private List<Object[]> readBook(String text) throws Fault {
        line = tokens(text, 400);
        next = 0;
        List<Object[]> acts = new ArrayList<>();
        while (!peek().text.isEmpty()) {
            Token first = pop();
            boolean word = first.text.matches("[a-z]+");
            boolean keyed = Arrays.asList("pact", "break", "close", "open", "lend", "day").contains(first.text);
            if (!word || KEPT.contains(first.text) && !keyed) {
                throw new Fault(1, first.place);
            }
            if (!keyed && !world.persons.contains(first.text)) {
                throw new Fault(3, first.place);
            }
            if (acts.size() == 40) {
                throw new Fault(4, first.place);
            }
            Object[] act = {first.text, 0, 0, 0};
            if (!keyed) {
                act[0] = "crosses";
                act[1] = world.persons.indexOf(first.text);
                expect("crosses");
                act[2] = landIn(world);
            } else if (first.text.equals("close") || first.text.equals("open")) {
                act[3] = number(0, 11);
            } else if (first.text.equals("day")) {
                act[3] = number(1, 60);
            } else {
                act[1] = landIn(world);
                act[2] = landIn(world);
                if (first.text.equals("lend")) {
                    act[3] = number(1, 99);
                }
            }
            expect(";");
            acts.add(act);
        }
        return acts;
    }

    interface SentenceNode {
        boolean holds(World w, int p);
    }

    private int ones;

    int sentence(String text) {
        line = tokens(text, 200);
        next = 0;
        ones = 0;
        try {
            SentenceNode node = cond(1);
            expect("");
            said = node;
            fault = 0;
            return ones;
        } catch (Fault f) {
            fault = f.kind;
            return -1 - f.place;
        }
    }

    private SentenceNode cond(int depth) throws Fault {
        SentenceNode left = all(depth);
        while (peek().text.equals("or")) {
            pop();
            SentenceNode a = left;
            SentenceNode b = all(depth);
            left = (w, p) -> a.holds(w, p) || b.holds(w, p);
        }
        return left;
    }

    private SentenceNode all(int depth) throws Fault {
        SentenceNode left = one(depth);
        while (peek().text.equals("and")) {
            pop();
            SentenceNode a = left;
            SentenceNode b = one(depth);
            left = (w, p) -> a.holds(w, p) && b.holds(w, p);
        }
        return left;
    }

    private SentenceNode one(int depth) throws Fault {
        Token t = pop();
        if (!Arrays.asList("not", "(", "home", "stuck", "in", "of", "free", "length", "taken", "crossed", "number")
            .contains(t.text)) {
            throw new Fault(1, t.place);
        }
        ones++;
        if (ones > 20 || depth > 8) {
            throw new Fault(4, t.place);
        }
        switch (t.text) {
            case "not": {
                SentenceNode inner = one(depth + 1);
                return (w, p) -> !inner.holds(w, p);
            }
            case "(": {
                SentenceNode inner = cond(depth + 1);
                expect(")");
                return inner;
            }
            case "home": return (w, p) -> w.of.get(p)[0] == w.of.get(p)[1];
            case "stuck": return (w, p) -> w.whither(p) == 0;
            case "in": {
                int l = landIn(world);
                return (w, p) -> w.of.get(p)[1] == l;
            }
            case "of": {
                int l = landIn(world);
                return (w, p) -> w.of.get(p)[0] == l;
            }
            case "free": {
                int l = landIn(world);
                return (w, p) -> w.isSpared(p, l);
            }
            default: {
                Token sign = pop();
                if (!sign.text.matches("[<=>]")) {
                    throw new Fault(1, sign.place);
                }
                int n = number(0, 999);
                return (w, p) -> {
                    int m = t.text.equals("length") ? w.of.get(p)[2] : t.text.equals("taken") ? w.of.get(p)[3]
                        : t.text.equals("crossed") ? w.of.get(p)[5] : p;
                    return sign.text.equals("<") ? m < n : sign.text.equals("=") ? m == n : m > n;
                };
            }
        }
    }

    int said(int k) {
        if (said == null) {
            return -1;
        }
        List<Integer> of = new ArrayList<>();
        for (int p = 0; p < world.of.size(); p++) {
            if (said.holds(world, p)) {
                of.add(p);
            }
        }
        return k == -1 ? of.size() : k >= 0 && k < of.size() ? of.get(k) : -1;
    }

    private static final class Trip {
        final World world;
        final List<Integer> row;

        Trip(World world, List<Integer> row) {
            this.world = world;
            this.row = row;
        }
    }

    /** All rows by how many CROSSINGS, each list LAND by LAND. */
    private static List<List<Trip>> trips(World from, int p, int most) {
        List<List<Trip>> levels = new ArrayList<>();
        levels.add(Collections.singletonList(new Trip(from.copy(), new ArrayList<>())));
        for (int d = 1; d <= most; d++) {
            List<Trip> level = new ArrayList<>();
            for (Trip t : levels.get(d - 1)) {
                for (int l = 0; l < from.lands.size(); l++) {
                    World w = t.world.copy();
                    if (w.cross(p, l) == 0) {
                        List<Integer> row = new ArrayList<>(t.row);
                        row.add(l);
                        level.add(new Trip(w, row));
                    }
                }
            }
            levels.add(level);
        }
        return levels;
    }

    private static List<Integer> wayOn(World from, int p, int l, int n) {
        for (List<Trip> level : trips(from, p, 5)) {
            for (Trip t : level) {
                if (t.world.of.get(p)[1] == l && t.world.of.get(p)[2] >= n) {
                    return t.row;
                }
            }
        }
        return null;
    }

    int way(int p, int l, int n) {
        List<Integer> row = wayOn(world, p, l, n);
        if (row == null) {
            return -1;
        }
        way = row;
        return row.size();
    }

    int round(int p) {
        int best = -1;
        List<List<Trip>> levels = trips(world, p, 5);
        for (List<Trip> level : levels.subList(1, levels.size())) {
            for (Trip t : level) {
                if (t.world.of.get(p)[1] == world.of.get(p)[1]) {
                    best = Math.max(best, t.world.of.get(p)[2]);
                }
            }
        }
        return best;
    }

    private static List<Integer> bySize(int bits) {
        List<Integer> sets = new ArrayList<>();
        for (int k = 0; k < 1 << bits; k++) {
            sets.add(k);
        }
        sets.sort(Comparator.<Integer>comparingInt(Integer::bitCount).thenComparingInt(k -> k));
        return sets;
    }

    int spare(int p, int l, int n) {
        for (int set : bySize(world.lands.size())) {
            World w = world.copy();
            boolean all = true;
            for (int k = 0; k < w.lands.size(); k++) {
                if ((set >> k & 1) == 1 && w.pact(w.of.get(p)[0], k) != 0) {
                    all = false;
                }
            }
            if (all && wayOn(w, p, l, n) != null) {
                spared = set;
                return Integer.bitCount(set);
            }
        }
        return -1;
    }

    int made(int p, int length) {
        List<List<Trip>> levels = trips(world, p, 4);
        List<Trip> rows = new ArrayList<>();
        for (List<Trip> level : levels.subList(1, levels.size())) {
            for (Trip t : level) {
                if (t.world.of.get(p)[2] == length) {
                    rows.add(t);
                }
            }
        }
        if (!rows.isEmpty()) {
            made = rows.get(0).row;
            int[] ends = new int[world.lands.size()];
            for (Trip t : rows) {
                ends[t.world.of.get(p)[1]]++;
            }
            likely = 0;
            for (int l = 1; l < ends.length; l++) {
                likely = ends[l] > ends[likely] ? l : likely;
            }
        }
        return rows.size();
    }

    private static void orders(List<Integer> left, List<Integer> row, List<List<Integer>> found) {
        if (left.isEmpty()) {
            found.add(new ArrayList<>(row));
        }
        for (int k = 0; k < left.size(); k++) {
            List<Integer> rest = new ArrayList<>(left);
            row.add(rest.remove(k));
            orders(rest, row, found);
            row.remove(row.size() - 1);
        }
    }

    int caravan(int l) {
        List<Integer> can = new ArrayList<>();
        for (int p = 0; p < world.of.size(); p++) {
            if (world.copy().cross(p, l) == 0) {
                can.add(p);
            }
        }
        List<List<Integer>> found = new ArrayList<>();
        orders(can, new ArrayList<>(), found);
        int best = -1;
        for (List<Integer> row : found) {
            World w = world.copy();
            for (int p : row) {
                w.cross(p, l);
            }
            if (w.lengths() > best) {
                best = w.lengths();
                caravan = row;
            }
        }
        return best;
    }

    int part(int a, int b) {
        for (int set : bySize(world.roads.size())) {
            boolean open = true;
            Set<Integer> shut = new HashSet<>(world.closed);
            for (int r = 0; r < world.roads.size(); r++) {
                if ((set >> r & 1) == 1) {
                    open &= shut.add(r);
                }
            }
            if (open && !leads(a, b, shut, new HashSet<>())) {
                parting = set;
                return Integer.bitCount(set);
            }
        }
        return -1;
    }

    private boolean leads(int a, int b, Set<Integer> shut, Set<Integer> been) {
        if (a == b) {
            return true;
        }
        been.add(a);
        for (int l = 0; l < world.lands.size(); l++) {
            int r = world.roadOf(a, l);
            if (r >= 0 && !shut.contains(r) && !been.contains(l) && leads(l, b, shut, been)) {
                return true;
            }
        }
        return false;
    }

    int rests() {
        World w = world.copy();
        for (int d = world.day; d < 400; d++) {
            if (!w.goDay()) {
                return d - world.day;
            }
        }
        return -1;
    }

    int pass(int p) {
        int[] o = world.of.get(p);
        pass = world.persons.get(p) + " of " + world.lands.get(o[0]) + " in " + world.lands.get(o[1]) + " " + o[2];
        return pass.length();
    }

    int odds(int p, int n, int seed) {
        int longer = 0;
        for (int k = 0; k < n; k++) {
            World w = world.copy();
            w.drawn(20, seed + k);
            longer += w.of.get(p)[2] > world.of.get(p)[2] ? 1 : 0;
        }
        return longer;
    }
}
