/** The boundaries that the promises 25 to 27 and Term III name for what was seen. */
public final class EdgeSeenTest {
    private static final int MAX = Integer.MAX_VALUE;
    private static final int MIN = Integer.MIN_VALUE;
    private static final String ROAD = "place a;place b;road a east 37 b;";
    private static final String PLAIN = "walker p plain broad 1 deep 1 high 1 from 1 to 1;";

    public static void main(String[] args) {
        noneSeen();
        everySeen();
        nothingToGo();
        allLegsFit();
        leastAndGreatest();
        oneBesideThat();
        eachFace();
        noWholes();
        shieldAsHeld();
        onlyHisSpeeds();
        ofThatWalker();
        chancesDoNotCount();
        fourWhoLie();
        byRoadsAndWays();
        Check.end("EdgeSeenTest");
    }

    private static void codes(RainWalk x, int seen, int... codes) {
        Check.granted("fits(" + seen + ")", x, x.fits(seen), codes.length);
        for (int i = 0; i < codes.length; i++) {
            Check.granted("fit(" + seen + ", " + i + ")", x, x.fit(seen, i), codes[i]);
        }
        for (int wrong : new int[] {-1, codes.length, codes.length + 1, MIN, MAX}) {
            Check.refused("fit(" + seen + ", " + wrong + ")", x, x.fit(seen, wrong), -1, 1);
        }
    }

    private static void noneSeen() {
        RainWalk x = Check.of(Worlds.SMALL);
        Check.refused("fits(0)", x, x.fits(0), -1, 1);
        Check.refused("fit(0, 0)", x, x.fit(0, 0), -1, 1);
        Check.granted("lies()", x, x.lies(), 0);
        RainWalk y = new RainWalk();
        Check.refused("lies() without a WORLD", y, y.lies(), -1, 1);
        Check.refused("a FAULT", y, Check.world(y, Worlds.SMALL + "!"), -1, 4);
        Check.refused("lies() without a WORLD still", y, y.lies(), -1, 1);
    }

    private static void everySeen() {
        RainWalk x = Check.of(Worlds.FULL);
        for (int seen = 0; seen < 4; seen++) {
            Check.due("fits(" + seen + ") is taken", x.fits(seen) >= 0 && x.trouble() == 0, true);
        }
        for (int wrong : new int[] {-1, 4, MIN, MAX}) {
            Check.refused("fits(" + wrong + ")", x, x.fits(wrong), -1, 1);
            for (int i : new int[] {0, -1, MAX}) {
                Check.refused("fit(" + wrong + ", " + i + ")", x, x.fit(wrong, i), -1, 1);
            }
        }
        RainWalk one = Check.of(Worlds.SMALL + ";seen z 0,0,0,0,0");
        Check.granted("fits(0) of one seen", one, one.fits(0), 0);
        Check.refused("fits(1) of one seen", one, one.fits(1), -1, 1);
    }

    private static void nothingToGo() {
        String rain = ";rain drops 0 down 1 wind east 0 chance 0";
        for (String more : new String[] {"", ";place b;road a east 1 b", rain}) {
            RainWalk x = Check.of(Worlds.SMALL + more + ";seen z 0,0,0,0,0");
            codes(x, 0);
            Check.granted("lies() where no LEG is", x, x.lies(), 1);
        }
        RainWalk y = Check.of(Worlds.SMALL + rain + ";place b;road a east 1 b;seen z 0,0,0,0,0");
        codes(y, 0, 1, 101);
        Check.granted("lies() where legs are", y, y.lies(), 0);
    }

    /** Twelve roads, two ways, six hours, nine speeds, and nothing falls: all fit, in their order. */
    private static void allLegsFit() {
        String text = "world hour 5;place a;place b;" + "road a east 1 b;".repeat(12) + "rain drops 0 down 1 wind east 1 chance 1;".repeat(6)
            + "walker p plain broad 9 deep 9 high 9 from 1 to 9;seen p 0,0,0,0,0";
        RainWalk x = Check.of(text);
        Check.granted("fits", x, x.fits(0), 1296);
        Check.granted("the first", x, x.fit(0, 0), 1);
        Check.granted("the last", x, x.fit(0, 1295), 11159);
        Check.refused("behind the last", x, x.fit(0, 1296), -1, 1);
        Check.granted("lies()", x, x.lies(), 0);
        for (int from = 0; from < 1296; from += 200) {
            RainWalk y = Check.of(text);
            for (int i = from; i < from + 200 && i < 1296; i++) {
                int due = 1000 * (i / 108) + 100 * (i / 54 % 2) + 10 * (i / 9 % 6) + i % 9 + 1;
                Check.due("fit(0, " + i + ")", y.fit(0, i), due);
            }
        }
    }

    /** 999 is what a top of 1 gets of 3 drops that fall 9 on 37 of road. */
    private static void leastAndGreatest() {
        RainWalk x = Check.of(Worlds.HEAD + ROAD + "rain drops 3 down 9 wind east 1 chance 50;" + PLAIN
            + "seen p 999,0,0,0,0;seen p 998,0,0,0,0;seen p 999,222,0,0,0;seen p 0,0,0,0,0");
        codes(x, 0, 1);
        codes(x, 1);
        codes(x, 2, 101);
        codes(x, 3);
        Check.granted("lies()", x, x.lies(), 10);
        // 1000 cannot be told: a top that gets 1000 fits none of 0, 999
        RainWalk y = Check.of(Worlds.HEAD + "place a;place b;road a east 50 b;rain drops 4 down 5 wind east 1 chance 50;" + PLAIN
            + "seen p 999,0,0,0,0;seen p 0,0,0,0,0");
        Check.granted("lies() of 1000", y, y.lies(), 3);
    }

    private static void oneBesideThat() {
        int[] right = {6, 15, 0, 0, 0};
        for (int face = 0; face < 5; face++) {
            for (int by = -1; by <= 1; by++) {
                int[] told = right.clone();
                told[face] += by;
                if (told[face] >= 0) {
                    RainWalk x = Check.of(Worlds.HEAD + "place a;place b;road a east 3 b;rain drops 1 down 2 wind west 4 chance 0;" + PLAIN
                        + "seen p " + told[0] + "," + told[1] + "," + told[2] + "," + told[3] + "," + told[4]);
                    codes(x, 0, by == 0 ? new int[] {1} : new int[0]);
                }
            }
        }
    }

    /** Top, front, back, left, right, each by the wind that makes it wet. */
    private static void eachFace() {
        RainWalk x = Check.of(Worlds.HEAD + "place a;place b;road a east 3 b;rain drops 1 down 1 wind west 1 chance 0;"
            + "rain drops 1 down 1 wind east 3 chance 0;rain drops 1 down 1 wind south 2 chance 0;rain drops 1 down 1 wind north 2 chance 0;"
            + "walker p plain broad 1 deep 2 high 1 from 1 to 1;seen p 6,6,0,0,0;seen p 6,0,6,0,0;seen p 6,3,0,12,0;seen p 6,3,0,0,12");
        codes(x, 0, 1);
        codes(x, 1, 11);
        codes(x, 2, 21, 131);
        codes(x, 3, 31, 121);
        Check.granted("lies()", x, x.lies(), 0);
    }

    /** "just so much": a half is neither the whole below nor the one above. */
    private static void noWholes() {
        RainWalk x = Check.of(Worlds.HEAD + "place a;place b;road a east 3 b;rain drops 1 down 1 wind north 0 chance 0;"
            + "walker p plain broad 1 deep 1 high 1 from 2 to 2;seen p 1,3,0,0,0;seen p 2,3,0,0,0");
        codes(x, 0);
        codes(x, 1);
        Check.granted("lies()", x, x.lies(), 3);
    }

    private static void shieldAsHeld() {
        RainWalk x = Check.of(Worlds.HEAD + "place a;place b;road a east 2 b;rain drops 1 down 1 wind north 0 chance 0;"
            + "walker p shield 1 broad 2 deep 1 high 1 from 1 to 2;seen p 2,4,0,0,0;seen p 2,2,0,0,0;seen p 4,2,0,0,0");
        // at 1 alike, over the head: 2 and 4; at 2 forward: 2 and 2
        codes(x, 0, 1, 101);
        codes(x, 1, 2, 102);
        codes(x, 2);
        Check.granted("lies()", x, x.lies(), 4);
    }

    private static void onlyHisSpeeds() {
        String text = Worlds.HEAD + "place a;place b;road a east 1 b;rain drops 0 down 1 wind north 0 chance 0;walker p plain broad 1 deep 1 "
            + "high 1 from ";
        RainWalk x = Check.of(text + "3 to 4;seen p 0,0,0,0,0");
        codes(x, 0, 3, 4, 103, 104);
        RainWalk y = Check.of(text + "9 to 9;seen p 0,0,0,0,0");
        codes(y, 0, 9, 109);
        RainWalk z = Check.of(text + "1 to 1;seen p 0,0,0,0,0");
        codes(z, 0, 1, 101);
    }

    private static void ofThatWalker() {
        RainWalk x = Check.of(Worlds.HEAD + "place a;place b;road a east 1 b;rain drops 1 down 1 wind north 0 chance 0;" + PLAIN
            + "walker q bent 8 broad 9 deep 9 high 9 from 1 to 1;walker r coat 999 broad 1 deep 1 high 2 from 1 to 1;"
            + "walker s plain broad 1 deep 1 high 1 from 1 to 1;seen s 1,1,0,0,0;seen q 1,1,0,0,0;seen q 153,9,0,0,0;seen r 1,2,0,0,0");
        codes(x, 0, 1, 101);
        codes(x, 1);
        codes(x, 2, 1, 101);
        codes(x, 3, 1, 101);
        Check.granted("lies()", x, x.lies(), 2);
    }

    /** "if it rains": a chance of 0 is as good as 100; awnings count. */
    private static void chancesDoNotCount() {
        RainWalk x = Check.of(Worlds.HEAD + "place a;place b;road a east 2 b;road a east 3 b awning 1;road a east 3 b awning 3;"
            + "rain drops 1 down 1 wind north 0 chance 0;rain drops 1 down 1 wind north 0 chance 100;" + PLAIN
            + "seen p 2,2,0,0,0;seen p 0,0,0,0,0");
        codes(x, 0, 1, 11, 101, 111, 1001, 1011, 1101, 1111);
        codes(x, 1, 2001, 2011, 2101, 2111);
    }

    private static void fourWhoLie() {
        String text = Worlds.HEAD + "place a;place b;road a east 1 b;rain drops 1 down 1 wind north 0 chance 0;" + PLAIN;
        for (int bits = 0; bits < 16; bits++) {
            StringBuilder seen = new StringBuilder();
            for (int i = 0; i < 4; i++) {
                seen.append(i > 0 ? ";" : "").append((bits >> i & 1) == 1 ? "seen p 1,1,1,0,0" : "seen p 1,1,0,0,0");
            }
            RainWalk x = Check.of(text + seen);
            Check.granted("lies()", x, x.lies(), bits);
        }
    }

    /** Three roads by unlike sides: the way counts on each of them. */
    private static void byRoadsAndWays() {
        RainWalk x = Check.of(Worlds.HEAD + "place a;place b;road a east 1 b;road a west 1 b;road a east 1 b;road a north 1 b;"
            + "rain drops 1 down 1 wind east 1 chance 0;rain drops 1 down 1 wind west 1 chance 0;" + PLAIN
            + "seen p 1,0,0,0,0;seen p 1,2,0,0,0;seen p 1,1,0,1,0;seen p 1,1,0,0,1");
        codes(x, 0, 1, 111, 1011, 1101, 2001, 2111);
        codes(x, 1, 11, 101, 1001, 1111, 2011, 2101);
        codes(x, 2, 3001, 3111);
        codes(x, 3, 3011, 3101);
    }
}
