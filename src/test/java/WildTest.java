import java.util.NoSuchElementException;
import java.util.Random;

/** Calls with whatever arguments, on whatever texts: nothing but person() throws, and it throws only what it may. */
public final class WildTest {
    private static final int[] WILD = {Integer.MIN_VALUE, Integer.MIN_VALUE + 1, -1000, -2, -1, 0, 1, 2, 3, 5, 6, 7, 8,
        11, 12, 20, 31, 32, 33, 60, 61, 99, 100, 240, 241, 399, 400, 940, Integer.MAX_VALUE - 1, Integer.MAX_VALUE};
    private static final String FULL = "land a 3 5;land b 2 4;land c 4 1;land d 0 9;land e 20 20;land f 1 0;land g 0 0;"
        + "store a 9;store g 99;road a b 0 240;road b c 0 240;road c d 0 240;road d e 0 240;road e f 0 240;"
        + "road f g 0 240;road g a 0 240;road a c 0 240;road b d 0 240;road c e 0 240;road d f 0 240;road e g 0 240;"
        + "person p a 50;person q b 20;person r c 240;person s d 1;person t a 99;person u g 30;";

    private final Random random;
    private final InchBorders x = new InchBorders();

    private WildTest(long seed) {
        random = new Random(seed);
    }

    public static void main(String[] args) {
        for (int k = 0; k < 300; k++) {
            WildTest t = new WildTest(k);
            if (k % 3 > 0) {
                Check.map(t.x, FULL);
            }
            for (int n = 0; n < 480; n++) {
                t.call();
            }
        }
        Check.due("nothing was thrown that may not be", 0, 0);
        Check.end();
    }

    private int any() {
        return random.nextInt(3) == 0 ? WILD[random.nextInt(WILD.length)] : random.nextInt(9) - 1;
    }

    private void call() {
        switch (random.nextInt(21)) {
            case 0: feedBytes(); break;
            case 1: x.end(any()); break;
            case 2: x.map(); break;
            case 3: x.book(random.nextInt(3)); break;
            case 4: x.sentence(); break;
            case 5: x.made(); x.madeAt(any()); break;
            case 6: look(); break;
            case 7: x.cross(any(), any()); x.lend(any(), any(), any()); break;
            case 8: x.pact(any(), any()); x.breaks(any(), any()); break;
            case 9: x.close(any()); x.open(any()); break;
            case 10: x.days(any()); x.undo(); break;
            case 11: x.way(any(), any(), any()); x.wayAt(any()); break;
            case 12: x.round(any()); x.rests(); break;
            case 13: x.spare(any(), any(), any()); break;
            case 14: x.caravan(any()); x.caravanAt(any()); break;
            case 15: x.part(any(), any()); break;
            case 16: x.pass(any()); x.byteAt(any()); break;
            case 17: x.drawn(any(), any()); break;
            case 18: x.odds(any(), any(), any()); break;
            case 19: x.said(any()); x.told(any()); x.count(any()); break;
            default: x.image(any()); x.restore(any());
        }
    }

    private void feedBytes() {
        if (random.nextBoolean()) {
            x.feed(random.nextInt(), random.nextInt(), random.nextInt(), random.nextInt(), random.nextInt());
            return;
        }
        String texts = FULL + "p crosses b;day 3;not ((home or stuck) and in a;";
        int from = random.nextBoolean() ? 0 : random.nextInt(texts.length());
        int to = from + random.nextInt(texts.length() - from + 1);
        Check.tape(x, texts.substring(from, to));
    }

    private void look() {
        x.land(any(), any());
        x.road(any(), any());
        x.now(any());
        int p = any();
        int what = any();
        boolean there = p >= 0 && p < x.count(2) && what >= 0 && what < 7;
        boolean answered = true;
        try {
            x.person(p, what);
        } catch (NoSuchElementException e) {
            answered = false;
        }
        Check.due("person(" + p + ", " + what + ") answers", answered, there);
    }
}
