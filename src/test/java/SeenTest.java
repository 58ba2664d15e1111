/** Promises 25 to 27: which walks fit what was seen, who lies. */
public final class SeenTest {
    private static final String TEXT = "world hour 10;"
        + "rain drops 2 down 3 wind east 4 chance 50;rain drops 2 down 3 wind east 4 chance 0;rain drops 0 down 1 wind north 1 chance 1;"
        + "place a inn;place b tree 2;place c;"
        + "road a east 12 b awning 4;road b north 10 c;road a east 8 c;road c west 8 b;"
        + "walker p plain broad 2 deep 1 high 5 from 2 to 6;walker s shield 6 broad 3 deep 2 high 4 from 1 to 3;";

    public static void main(String[] args) {
        RainWalk x = Check.of(TEXT + "seen p 48,0,160,0,0;seen p 1,1,1,1,1;seen s 288,480,0,0,0;seen p 0,0,0,0,0");
        codes(x, 0, 2, 12, 2002, 2012, 3102, 3112);
        codes(x, 1);
        codes(x, 2, 101, 111, 2101, 2111, 3001, 3011);
        int[] dry = new int[4 * 2 * 5];
        for (int i = 0; i < dry.length; i++) {
            dry[i] = 1000 * (i / 10) + 100 * (i / 5 % 2) + 20 + i % 5 + 2;
        }
        codes(x, 3, dry);
        Check.granted("lies()", x, x.lies(), 2);
        Check.refused("fits(4)", x, x.fits(4), -1, 1);
        Check.refused("fits(-1)", x, x.fits(-1), -1, 1);
        Check.refused("fit(4, 0)", x, x.fit(4, 0), -1, 1);
        Check.refused("fit(-1, 0)", x, x.fit(-1, 0), -1, 1);
        Check.refused("fit(0, MAX)", x, x.fit(0, Integer.MAX_VALUE), -1, 1);
        Check.refused("fit(0, MIN)", x, x.fit(0, Integer.MIN_VALUE), -1, 1);
        nothingToFit();
        firstLeg();
        Check.end("SeenTest");
    }

    private static void codes(RainWalk x, int seen, int... codes) {
        Check.granted("fits(" + seen + ")", x, x.fits(seen), codes.length);
        for (int i = 0; i < codes.length; i++) {
            Check.granted("fit(" + seen + ", " + i + ")", x, x.fit(seen, i), codes[i]);
        }
        Check.refused("fit behind the last of " + seen, x, x.fit(seen, codes.length), -1, 1);
        Check.refused("fit(" + seen + ", -1)", x, x.fit(seen, -1), -1, 1);
    }

    private static void firstLeg() {
        RainWalk x = Check.of("world hour 5;rain drops 1 down 1 wind north 0 chance 0;place a;place b;road a east 1 b;"
            + "walker p plain broad 1 deep 1 high 1 from 1 to 9;seen p 1,1,0,0,0;seen p 0,1,0,0,0");
        codes(x, 0, 1, 101);
        codes(x, 1);
        Check.granted("lies()", x, x.lies(), 2);
    }

    private static void nothingToFit() {
        String bare = "world hour 5;place a;walker p plain broad 1 deep 1 high 1 from 1 to 1";
        RainWalk none = Check.of(bare);
        Check.granted("lies() of none seen", none, none.lies(), 0);
        Check.refused("fits of none seen", none, none.fits(0), -1, 1);
        RainWalk two = Check.of(bare + ";seen p 0,0,0,0,0;seen p 0,0,0,0,0");
        Check.granted("fits without roads and hours", two, two.fits(1), 0);
        Check.granted("lies() without roads and hours", two, two.lies(), 3);
    }
}
