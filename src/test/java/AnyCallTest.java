import java.util.Random;

/** Any calls with any arguments in any state: nothing is thrown but by led, and the same calls give the same answers. */
public final class AnyCallTest {
    private static final int[] EDGES = {-1, 0, 1, 2, 3, 4, 5, 6, 7, 8, 9, 10, 11, 12, 60, 61, 399, 400, 401, 900, 901, 999, 1000,
        65536, 65537, Integer.MAX_VALUE, Integer.MAX_VALUE - 1, Integer.MIN_VALUE, Integer.MIN_VALUE + 1, -2, -100};

    private static final String FULL = "world hour 5;" + times("rain drops 9 down 9 wind west 9 chance 99;", 6)
        + "place a inn;place b;place c tree 9;place d;place e inn;place f;place g;place h;"
        + times("road a east 1 b;", 4) + times("road b north 60 c;", 4) + times("road h west 7 a;", 4)
        + "walker p plain broad 9 deep 9 high 9 from 1 to 9;walker s shield 9 broad 9 deep 9 high 9 from 1 to 9;"
        + "walker k coat 9 broad 9 deep 9 high 9 from 1 to 9;walker n bent 8 broad 9 deep 9 high 9 from 1 to 9;seen n 1,2,3,4,5";

    private final Random random;
    private final RainWalk x = new RainWalk();

    private AnyCallTest(long seed) {
        random = new Random(seed);
    }

    public static void main(String[] args) {
        Check.due("the full text fits THE TAPE", FULL.length() <= 900, true);
        for (int seed = 0; seed < 300; seed++) {
            Check.due("seed " + seed + ", twice", run(seed), run(seed));
        }
        Check.end("AnyCallTest");
    }

    private static long run(int seed) {
        AnyCallTest test = new AnyCallTest(seed);
        long all = 0;
        String last = "none";
        try {
            if (seed % 3 != 0) {
                all = Check.world(test.x, FULL);
            }
            for (int i = 0; i < 450; i++) {
                int call = test.random.nextInt(44);
                last = "call " + call;
                all = all * 31 + test.call(call);
            }
        } catch (RuntimeException e) {
            Check.due("seed " + seed + ", " + last + " throws " + e, 1, 0);
        }
        return all;
    }

    private static String times(String part, int n) {
        return part.repeat(n);
    }

    /** Mostly what may be there, often an edge, now and then any number. */
    private int n() {
        int kind = random.nextInt(20);
        return kind == 0 ? random.nextInt() : kind < 4 ? EDGES[random.nextInt(EDGES.length)] : random.nextInt(kind < 14 ? 3 : 10);
    }

    private int minute() {
        return random.nextInt(12) == 0 ? n() : random.nextInt(402);
    }

    private boolean lower() {
        return random.nextBoolean();
    }

    private long call(int i) {
        switch (i) {
            case 0: return x.feed(random.nextInt(), n(), n(), n(), n());
            case 1: return random.nextInt(8) == 0 ? x.world(n()) : 0;
            case 2: return x.fault();
            case 3: return x.where();
            case 4: return x.face(n(), n(), n(), n(), n(), n(), lower());
            case 5: return x.wet(n(), n(), n(), n(), n(), lower());
            case 6: return x.mean(n(), n(), n(), n(), n(), lower());
            case 7: return x.minutes(n(), n(), n());
            case 8: return x.air(n(), n(), n());
            case 9: return x.held(n(), n(), n(), n(), n());
            case 10: return x.best(n(), n(), n(), n());
            case 11: return x.saves(n(), n(), n(), n(), lower());
            case 12: return x.worst(n(), n(), n(), n());
            case 13: return x.even(n(), n(), n(), n());
            case 14: return x.round(n(), n(), n(), lower());
            case 15: return x.driest(n(), n(), n());
            case 16: return x.lee(n(), n(), n(), n(), n(), n(), lower());
            case 17: return x.first(n(), n(), n(), n(), n(), n());
            case 18: return x.least(n(), n(), n(), minute(), minute(), lower());
            case 19: return x.there(n(), n(), n(), minute(), minute());
            case 20: return x.steps(n(), n(), n(), minute(), minute());
            case 21: return x.step(n(), n(), n(), minute(), minute(), n());
            case 22: return x.off(n(), n(), n(), minute());
            case 23: return x.fits(n());
            case 24: return x.fit(n(), n());
            case 25: return x.lies();
            case 26: return x.day(n(), n(), minute(), minute());
            default: return more(i);
        }
    }

    private long more(int i) {
        switch (i) {
            case 27: return x.got(n(), lower());
            case 28: return x.wetness(lower());
            case 29: return x.soaked();
            case 30: return x.undo() ? 1 : 0;
            case 31: return x.mark();
            case 32: return x.back(n()) ? 1 : 0;
            case 33: return x.walker(n(), n());
            case 34: return x.road(n(), n());
            case 35: return Check.ledThrows(x, n()) ? 1 : 0;
            case 36: return x.size(n());
            case 37: return x.trouble();
            case 38: case 39: case 40: return x.stay(n()) ? 1 : 0;
            default: return x.go(n(), n(), n());
        }
    }
}
