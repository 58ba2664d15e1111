/** The boundaries that the promises 6 to 19 and Term II name: every argument, ties, awnings, shields, bent walkers, lee. */
public final class EdgeLegsTest {
    private static final int MAX = Integer.MAX_VALUE;
    private static final int MIN = Integer.MIN_VALUE;
    private static final String[] SIDES = {"north", "east", "south", "west"};
    /** The slowest and the fastest of the walkers of the full world. */
    private static final int[][] SPEEDS = {{2, 6}, {1, 3}, {1, 1}, {1, 9}};

    private interface Leg {
        long of(RainWalk x, int walker, int road, int way, int hour, int speed);
    }

    private interface Pair {
        long of(RainWalk x, int one, int other, int road, int way, int hour, int speed);
    }

    public static void main(String[] args) {
        everyArgument();
        facesBesideTheFive();
        pairs();
        withoutRoadsOrHours();
        most();
        smallest();
        allFacesTogether();
        chances();
        minutesUpwards();
        winds();
        speedByTheAir();
        awnings();
        shieldsThatTakeAll();
        shieldsAlike();
        heldByOthers();
        bentByEight();
        bestAndWorstOfThoseAlike();
        worstAtEitherEnd();
        oneSpeed();
        rounds();
        driestOfThoseAlike();
        leeOfNothing();
        leeOfAShield();
        whoGoesAhead();
        Check.end("EdgeLegsTest");
    }

    private static void fraction(String call, RainWalk x, Leg upper, Leg lower, int[] leg, long up, long down) {
        Check.fraction(call, upper.of(x, leg[0], leg[1], leg[2], leg[3], leg[4]), lower.of(x, leg[0], leg[1], leg[2], leg[3], leg[4]),
            up, down);
        Check.due("trouble() behind " + call, x.trouble(), 0);
    }

    private static void face(RainWalk x, int face, long up, long down, int... leg) {
        fraction("face " + face, x, (y, w, r, way, h, s) -> y.face(w, r, way, h, s, face, false),
            (y, w, r, way, h, s) -> y.face(w, r, way, h, s, face, true), leg, up, down);
    }

    private static void wet(RainWalk x, long up, long down, int... leg) {
        fraction("wet", x, (y, w, r, way, h, s) -> y.wet(w, r, way, h, s, false), (y, w, r, way, h, s) -> y.wet(w, r, way, h, s, true),
            leg, up, down);
    }

    private static void mean(RainWalk x, long up, long down, int... leg) {
        fraction("mean", x, (y, w, r, way, h, s) -> y.mean(w, r, way, h, s, false), (y, w, r, way, h, s) -> y.mean(w, r, way, h, s, true),
            leg, up, down);
    }

    // ---- the arguments

    /** w, r, y, h, s: whether a call has a walker, a road, a way, an hour, a speed. */
    private static void everyArgument() {
        arguments("face", "wryhs", -1, (x, w, r, way, h, s) -> x.face(w, r, way, h, s, 0, false));
        arguments("face, lower", "wryhs", -1, (x, w, r, way, h, s) -> x.face(w, r, way, h, s, 4, true));
        arguments("wet", "wryhs", -1, (x, w, r, way, h, s) -> x.wet(w, r, way, h, s, false));
        arguments("wet, lower", "wryhs", -1, (x, w, r, way, h, s) -> x.wet(w, r, way, h, s, true));
        arguments("mean", "wryhs", -1, (x, w, r, way, h, s) -> x.mean(w, r, way, h, s, false));
        arguments("mean, lower", "wryhs", -1, (x, w, r, way, h, s) -> x.mean(w, r, way, h, s, true));
        arguments("minutes", "wrs", -1, (x, w, r, way, h, s) -> x.minutes(w, r, s));
        arguments("air", "ryh", -100, (x, w, r, way, h, s) -> x.air(r, way, h));
        arguments("held", "wryhs", -1, (x, w, r, way, h, s) -> x.held(w, r, way, h, s));
        arguments("best", "wryh", -1, (x, w, r, way, h, s) -> x.best(w, r, way, h));
        arguments("saves", "wryh", -1, (x, w, r, way, h, s) -> x.saves(w, r, way, h, false));
        arguments("saves, lower", "wryh", -1, (x, w, r, way, h, s) -> x.saves(w, r, way, h, true));
        arguments("worst", "wryh", -1, (x, w, r, way, h, s) -> x.worst(w, r, way, h));
        arguments("even", "wryh", -1, (x, w, r, way, h, s) -> x.even(w, r, way, h));
        arguments("round", "wrh", -1, (x, w, r, way, h, s) -> x.round(w, r, h, false));
        arguments("round, lower", "wrh", -1, (x, w, r, way, h, s) -> x.round(w, r, h, true));
        arguments("driest", "wry", -1, (x, w, r, way, h, s) -> x.driest(w, r, way));
    }

    private static void arguments(String name, String has, long none, Leg call) {
        taken(name, none, call);
        String letters = "wryh";
        int[] counts = {4, 12, 2, 6};
        for (int k = 0; k < 4; k++) {
            if (has.indexOf(letters.charAt(k)) >= 0) {
                RainWalk x = Check.of(Worlds.FULL);
                for (int wrong : new int[] {-1, counts[k], MIN, MAX, -2, counts[k] + 1}) {
                    int[] a = {0, 0, 0, 0};
                    a[k] = wrong;
                    for (int speed : new int[] {2, 0, 10, MIN}) {
                        String of = name + ", " + letters.charAt(k) + " is " + wrong + ", the speed " + speed;
                        Check.refused(of, x, call.of(x, a[0], a[1], a[2], a[3], speed), none, 1);
                    }
                }
            }
        }
        if (has.indexOf('s') >= 0) {
            speedsBeyond(name, none, call);
        }
    }

    private static void taken(String name, long none, Leg call) {
        for (int w : new int[] {0, 3}) {
            RainWalk x = Check.of(Worlds.FULL);
            for (int r : new int[] {0, 11}) {
                for (int way = 0; way < 2; way++) {
                    for (int h : new int[] {0, 5}) {
                        for (int speed : SPEEDS[w]) {
                            long got = call.of(x, w, r, way, h, speed);
                            Check.due(name + " is taken", got == none && none == -1 || x.trouble() != 0, false);
                        }
                    }
                }
            }
        }
    }

    private static void speedsBeyond(String name, long none, Leg call) {
        for (int w = 0; w < 4; w++) {
            RainWalk x = Check.of(Worlds.FULL);
            for (int wrong : new int[] {SPEEDS[w][0] - 1, SPEEDS[w][1] + 1, -SPEEDS[w][0], 0, 10, MIN, MAX}) {
                Check.refused(name + ", " + w + " at " + wrong, x, call.of(x, w, 11, 1, 5, wrong), none, 2);
            }
        }
    }

    private static void facesBesideTheFive() {
        RainWalk x = Check.of(Worlds.FULL);
        for (int face = 0; face < 5; face++) {
            Check.due("face " + face + " is taken", x.face(0, 0, 0, 0, 2, face, true) >= 1 && x.trouble() == 0, true);
        }
        for (int face : new int[] {-1, 5, MIN, MAX}) {
            Check.refused("face " + face, x, x.face(0, 0, 0, 0, 2, face, false), -1, 1);
            Check.refused("face " + face + " at no speed of his", x, x.face(0, 0, 0, 0, 7, face, true), -1, 1);
        }
        Check.refused("face 4 at no speed of his", x, x.face(0, 0, 0, 0, 7, 4, true), -1, 2);
    }

    private static void pairs() {
        pair("lee", (x, a, b, r, way, h, s) -> x.lee(a, b, r, way, h, s, false));
        pair("lee, lower", (x, a, b, r, way, h, s) -> x.lee(a, b, r, way, h, s, true));
        pair("first", (x, a, b, r, way, h, s) -> x.first(a, b, r, way, h, s));
    }

    private static void pair(String name, Pair call) {
        RainWalk x = Check.of(Worlds.FULL);
        int[][] taken = {{0, 1, 0, 0, 0, 2}, {1, 0, 11, 1, 5, 3}, {0, 3, 0, 1, 5, 6}, {3, 2, 11, 0, 0, 1}, {2, 3, 11, 0, 0, 1}};
        for (int[] a : taken) {
            long got = call.of(x, a[0], a[1], a[2], a[3], a[4], a[5]);
            Check.due(name + " is taken", got != -1 && x.trouble() == 0, true);
        }
        int[][] such = {{-1, 1, 0, 0, 0}, {4, 1, 0, 0, 0}, {1, -1, 0, 0, 0}, {1, 4, 0, 0, 0}, {0, 1, -1, 0, 0}, {0, 1, 12, 0, 0},
            {0, 1, 0, -1, 0}, {0, 1, 0, 2, 0}, {0, 1, 0, 0, -1}, {0, 1, 0, 0, 6}, {0, 0, 0, 0, 0}, {3, 3, 0, 0, 0}, {MIN, MAX, 0, 0, 0},
            {MAX, MIN, 0, 0, 0}, {4, 4, 0, 0, 0}, {-1, -1, 0, 0, 0}};
        for (int[] a : such) {
            for (int speed : new int[] {2, 0, 10}) {
                Check.refused(name + ", none such", x, call.of(x, a[0], a[1], a[2], a[3], a[4], speed), -1, 1);
            }
        }
        int[][] speeds = {{0, 1, 1}, {0, 1, 4}, {1, 0, 1}, {1, 0, 4}, {0, 1, 7}, {0, 1, 0}, {2, 0, 1}, {2, 0, 2}, {0, 2, 1}, {0, 2, 2},
            {3, 1, 0}, {3, 1, 4}, {3, 1, 10}, {3, 0, MAX}, {0, 3, MIN}};
        for (int[] a : speeds) {
            Check.refused(name + " at " + a[2], x, call.of(x, a[0], a[1], 0, 0, 0, a[2]), -1, 2);
        }
    }

    private static void withoutRoadsOrHours() {
        RainWalk x = Check.of(Worlds.HEAD + "place a;place b;road a east 1 b;" + Worlds.WALKER);
        Check.refused("wet without hours", x, x.wet(0, 0, 0, 0, 1, false), -1, 1);
        Check.refused("wet without hours, no speed", x, x.wet(0, 0, 0, 0, 2, false), -1, 1);
        Check.granted("minutes without hours", x, x.minutes(0, 0, 1), 1);
        Check.refused("air without hours", x, x.air(0, 0, 0), -100, 1);
        Check.refused("round without hours", x, x.round(0, 0, 0, false), -1, 1);
        Check.refused("driest without hours", x, x.driest(0, 0, 0), -1, 6);
        Check.refused("driest without hours, back", x, x.driest(0, 0, 1), -1, 6);
        Check.refused("driest without hours, no walker", x, x.driest(1, 0, 0), -1, 1);
        Check.refused("driest without hours, no road", x, x.driest(0, 1, 0), -1, 1);
        Check.refused("driest without hours, no way", x, x.driest(0, 0, 2), -1, 1);
        Check.refused("lee of the only walker", x, x.lee(0, 1, 0, 0, 0, 1, false), -1, 1);
        RainWalk y = Check.of(Worlds.SMALL + ";rain drops 1 down 1 wind east 1 chance 1");
        Check.refused("wet without roads", y, y.wet(0, 0, 0, 0, 1, false), -1, 1);
        Check.refused("minutes without roads", y, y.minutes(0, 0, 1), -1, 1);
        Check.refused("air without roads", y, y.air(0, 0, 0), -100, 1);
        Check.refused("driest without roads", y, y.driest(0, 0, 0), -1, 1);
        RainWalk z = Check.of(Worlds.SMALL);
        Check.refused("driest without roads and hours", z, z.driest(0, 0, 0), -1, 1);
    }

    // ---- how much

    /** The greatest of all that the text can tell. */
    private static void most() {
        RainWalk x = Check.of(Worlds.FULL);
        face(x, 0, 393660, 1, 2, 11, 0, 4, 1);
        face(x, 1, 437400, 1, 2, 11, 0, 4, 1);
        wet(x, 831060, 1, 2, 11, 0, 4, 1);
        mean(x, 831060, 1, 2, 11, 0, 4, 1);
        face(x, 0, 743580, 1, 3, 11, 0, 4, 1);
        face(x, 1, 48600, 1, 3, 11, 0, 4, 1);
        wet(x, 792180, 1, 3, 11, 0, 4, 1);
        wet(x, 92340, 1, 3, 11, 0, 4, 9);
        Check.fraction("lee of the greatest", x.lee(2, 3, 11, 0, 4, 1, false), x.lee(2, 3, 11, 0, 4, 1, true), 831060 + 743580, 1);
        Check.fraction("saves the most", x.saves(3, 11, 0, 4, false), x.saves(3, 11, 0, 4, true), 792180 - 92340, 1);
    }

    /** The smallest that is no nothing, and wholes that go into one another. */
    private static void smallest() {
        RainWalk x = Check.of("world hour 5;rain drops 1 down 1 wind north 0 chance 1;place a;place b;road a east 1 b;"
            + "walker p plain broad 1 deep 1 high 1 from 1 to 9");
        long[][] wets = {{2, 1}, {3, 2}, {4, 3}, {5, 4}, {6, 5}, {7, 6}, {8, 7}, {9, 8}, {10, 9}};
        long[][] means = {{1, 50}, {3, 200}, {1, 75}, {1, 80}, {3, 250}, {7, 600}, {2, 175}, {9, 800}, {1, 90}};
        for (int speed = 1; speed <= 9; speed++) {
            face(x, 0, 1, speed, 0, 0, 0, 0, speed);
            face(x, 1, 1, 1, 0, 0, 0, 0, speed);
            face(x, 2, 0, 1, 0, 0, 0, 0, speed);
            wet(x, wets[speed - 1][0], wets[speed - 1][1], 0, 0, 1, 0, speed);
            mean(x, means[speed - 1][0], means[speed - 1][1], 0, 0, 1, 0, speed);
        }
        Check.granted("best", x, x.best(0, 0, 0, 0), 9);
        Check.fraction("saves", x.saves(0, 0, 0, 0, false), x.saves(0, 0, 0, 0, true), 8, 9);
        Check.fraction("round", x.round(0, 0, 0, false), x.round(0, 0, 0, true), 20, 9);
    }

    /** "WET of a LEG: all faces together", by a wind from each side. */
    private static void allFacesTogether() {
        RainWalk x = Check.of("world hour 5;rain drops 1 down 3 wind south 2 chance 50;rain drops 1 down 3 wind north 2 chance 50;"
            + "rain drops 1 down 3 wind east 2 chance 50;rain drops 1 down 3 wind west 2 chance 50;place a;place b;road a east 1 b;"
            + "walker p plain broad 2 deep 3 high 5 from 1 to 1");
        long[][] due = {{18, 10, 0, 30, 0}, {18, 10, 0, 0, 30}, {18, 0, 10, 0, 0}, {18, 30, 0, 0, 0}};
        for (int hour = 0; hour < 4; hour++) {
            long all = 0;
            for (int face = 0; face < 5; face++) {
                face(x, face, due[hour][face], 1, 0, 0, 0, hour, 1);
                all += due[hour][face];
            }
            wet(x, all, 1, 0, 0, 0, hour, 1);
            mean(x, all / 2, 1, 0, 0, 0, hour, 1);
        }
    }

    private static void chances() {
        int[] chances = {0, 1, 50, 99, 100};
        long[][] means = {{0, 1}, {1, 10}, {5, 1}, {99, 10}, {10, 1}};
        StringBuilder text = new StringBuilder("world hour 5;place a;place b;road a east 5 b;" + Worlds.WALKER);
        for (int chance : chances) {
            text.append(";rain drops 1 down 1 wind north 0 chance ").append(chance);
        }
        RainWalk x = Check.of(text.toString());
        for (int hour = 0; hour < chances.length; hour++) {
            wet(x, 10, 1, 0, 0, 0, hour, 1);
            mean(x, means[hour][0], means[hour][1], 0, 0, 0, hour, 1);
        }
    }

    private static void minutesUpwards() {
        for (int length : new int[] {1, 2, 8, 9, 10, 18, 19, 59, 60}) {
            RainWalk x = Check.of("world hour 5;place a;place b;road a east " + length + " b;road a east " + length + " b awning " + length
                + ";walker p plain broad 1 deep 1 high 1 from 1 to 9");
            for (int speed = 1; speed <= 9; speed++) {
                int due = 0;
                for (int gone = 0; gone < length; gone += speed) {
                    due++;
                }
                Check.granted("minutes of " + length + " at " + speed, x, x.minutes(0, 0, speed), due);
                Check.granted("minutes under an awning", x, x.minutes(0, 1, speed), due);
            }
        }
    }

    // ---- the wind

    /** All sides to which a road goes by all to which the wind blows: north and west stand side by side. */
    private static void winds() {
        int[][] air = {{3, 0, -3, 0}, {0, 3, 0, -3}, {-3, 0, 3, 0}, {0, -3, 0, 3}};
        int[][] wetSide = {{-1, 3, -1, 4}, {4, -1, 3, -1}, {-1, 4, -1, 3}, {3, -1, 4, -1}};
        StringBuilder text = new StringBuilder("world hour 5;place a;place b;walker p plain broad 1 deep 2 high 5 from 1 to 9");
        for (String side : SIDES) {
            text.append(";rain drops 2 down 1 wind ").append(side).append(" 3 chance 1;road a ").append(side).append(" 1 b");
        }
        RainWalk x = Check.of(text.toString());
        for (int r = 0; r < 4; r++) {
            for (int h = 0; h < 4; h++) {
                for (int way = 0; way < 2; way++) {
                    int heading = way == 0 ? r : (r + 2) % 4;
                    Check.granted("air(" + r + ", " + way + ", " + h + ")", x, x.air(r, way, h), air[heading][h]);
                    for (int face = 3; face < 5; face++) {
                        Check.due("face " + face, x.face(0, r, way, h, 1, face, false), face == wetSide[heading][h] ? 2 * 3 * 10 : 0);
                    }
                }
            }
        }
        RainWalk y = Check.of("world hour 5;rain drops 1 down 1 wind east 9 chance 1;rain drops 1 down 1 wind east 0 chance 1;place a;"
            + "place b;road a east 1 b;road a south 1 b;" + Worlds.WALKER);
        Check.granted("the greatest air", y, y.air(0, 0, 0), 9);
        Check.granted("the least air", y, y.air(0, 1, 0), -9);
        Check.granted("air across", y, y.air(1, 0, 0), 0);
        for (int way = 0; way < 2; way++) {
            Check.granted("no wind", y, y.air(0, way, 1), 0);
            Check.granted("no wind across", y, y.air(1, way, 1), 0);
            face(y, 3, 0, 1, 0, 1, way, 1, 1);
            face(y, 4, 0, 1, 0, 1, way, 1, 1);
        }
    }

    /** Just with the rain neither front nor back gets anything; one faster, the front; one slower, the back. */
    private static void speedByTheAir() {
        RainWalk x = Check.of("world hour 5;rain drops 1 down 1 wind east 5 chance 1;rain drops 1 down 1 wind east 9 chance 1;"
            + "rain drops 1 down 1 wind east 0 chance 1;place a;place b;road a east 60 b;walker p plain broad 1 deep 1 high 1 from 1 to 9");
        face(x, 1, 0, 1, 0, 0, 0, 0, 5);
        face(x, 2, 0, 1, 0, 0, 0, 0, 5);
        face(x, 1, 10, 1, 0, 0, 0, 0, 6);
        face(x, 2, 0, 1, 0, 0, 0, 0, 6);
        face(x, 1, 0, 1, 0, 0, 0, 0, 4);
        face(x, 2, 15, 1, 0, 0, 0, 0, 4);
        face(x, 1, 0, 1, 0, 0, 0, 1, 9);
        face(x, 2, 0, 1, 0, 0, 0, 1, 9);
        face(x, 2, 480, 1, 0, 0, 0, 1, 1);
        face(x, 1, 600, 1, 0, 0, 1, 1, 1);
        face(x, 2, 0, 1, 0, 0, 1, 1, 1);
        face(x, 1, 60, 1, 0, 0, 0, 2, 1);
        face(x, 2, 0, 1, 0, 0, 0, 2, 1);
    }

    private static void awnings() {
        RainWalk x = Check.of("world hour 5;rain drops 1 down 1 wind east 1 chance 1;place a;place b;road a east 60 b;"
            + "road a east 60 b awning 0;road a east 60 b awning 1;road a east 60 b awning 59;road a east 60 b awning 60;"
            + "road a east 1 b awning 0;road a east 1 b awning 1;" + Worlds.WALKER);
        long[] dues = {60, 60, 59, 1, 0, 1, 0};
        for (int r = 0; r < dues.length; r++) {
            wet(x, dues[r], 1, 0, r, 0, 0, 1);
            wet(x, 3 * dues[r], 1, 0, r, 1, 0, 1);
        }
    }

    // ---- shields

    private static String shielded(int amount, int deep, int high) {
        return "world hour 5;rain drops 1 down 2 wind north 0 chance 1;place a;place b;road a east 1 b;walker p shield " + amount
            + " broad 1 deep " + deep + " high " + high + " from 1 to 9";
    }

    /** "0 at least left": a shield as great as what it shields, one less, one more. */
    private static void shieldsThatTakeAll() {
        for (int amount : new int[] {4, 5, 6, 99}) {
            RainWalk x = Check.of(shielded(amount, 5, 1));
            Check.granted("held over the head", x, x.held(0, 0, 0, 0, 1), 0);
            face(x, 0, amount == 4 ? 2 : 0, 1, 0, 0, 0, 0, 1);
            face(x, 1, 1, 1, 0, 0, 0, 0, 1);
            wet(x, amount == 4 ? 3 : 1, 1, 0, 0, 0, 0, 1);
            RainWalk y = Check.of(shielded(amount, 1, 5));
            Check.granted("held forward", y, y.held(0, 0, 0, 0, 9), 1);
            face(y, 0, 2, 9, 0, 0, 0, 0, 9);
            face(y, 1, amount == 4 ? 1 : 0, 1, 0, 0, 0, 0, 9);
            wet(y, amount == 4 ? 11 : 2, 9, 0, 0, 0, 0, 9);
        }
    }

    private static void shieldsAlike() {
        RainWalk x = Check.of(shielded(1, 3, 3));
        Check.granted("slower than it falls", x, x.held(0, 0, 0, 0, 1), 0);
        Check.granted("just as it falls: alike, off the top", x, x.held(0, 0, 0, 0, 2), 0);
        face(x, 0, 2, 1, 0, 0, 0, 0, 2);
        face(x, 1, 3, 1, 0, 0, 0, 0, 2);
        Check.granted("faster than it falls", x, x.held(0, 0, 0, 0, 3), 1);
        face(x, 0, 2, 1, 0, 0, 0, 0, 3);
        face(x, 1, 2, 1, 0, 0, 0, 0, 3);
        RainWalk y = Check.of(shielded(9, 4, 1));
        Check.granted("what it can take counts, not how great it is: 8 above, 8 before", y, y.held(0, 0, 0, 0, 8), 0);
        Check.granted("8 above, 9 before", y, y.held(0, 0, 0, 0, 9), 1);
        Check.granted("8 above, 7 before", y, y.held(0, 0, 0, 0, 7), 0);
        RainWalk z = Check.of(shielded(1, 1, 1) + ";rain drops 0 down 1 wind west 9 chance 1;road a east 7 b awning 7");
        Check.granted("without drops all is alike", z, z.held(0, 0, 0, 1, 9), 0);
        Check.granted("under an awning all is alike", z, z.held(0, 1, 0, 0, 9), 0);
        RainWalk back = Check.of("world hour 5;rain drops 1 down 1 wind east 9 chance 1;place a;place b;road a east 1 b;"
            + "walker p shield 5 broad 1 deep 1 high 5 from 1 to 9");
        Check.granted("it is never held behind", back, back.held(0, 0, 0, 0, 1), 0);
        face(back, 2, 40, 1, 0, 0, 0, 0, 1);
        Check.granted("just with the rain", back, back.held(0, 0, 0, 0, 9), 0);
        face(back, 0, 0, 1, 0, 0, 0, 0, 9);
    }

    private static void heldByOthers() {
        RainWalk x = Check.of(Worlds.FULL);
        for (int w : new int[] {0, 2, 3}) {
            Check.granted("held without a shield", x, x.held(w, 0, 0, 0, SPEEDS[w][0]), -2);
            Check.refused("held without a shield, no speed", x, x.held(w, 0, 0, 0, 0), -1, 2);
            Check.refused("held without a shield, no road", x, x.held(w, 12, 0, 0, 0), -1, 1);
        }
        Check.granted("held with one", x, x.held(1, 0, 0, 0, 1), 0);
    }

    private static void bentByEight() {
        RainWalk x = Check.of("world hour 5;rain drops 1 down 1 wind north 1 chance 1;place a;place b;road a east 1 b;"
            + "walker p bent 8 broad 9 deep 9 high 9 from 1 to 1;walker q bent 1 broad 1 deep 1 high 2 from 1 to 1;"
            + "walker r bent 1 broad 1 deep 1 high 9 from 1 to 1");
        long[][] dues = {{153, 9, 0, 0, 17}, {2, 1, 0, 0, 2}, {2, 8, 0, 0, 16}};
        for (int w = 0; w < dues.length; w++) {
            for (int face = 0; face < 5; face++) {
                face(x, face, dues[w][face], 1, w, 0, 0, 0, 1);
            }
        }
    }

    // ---- speeds

    private static void bestAndWorstOfThoseAlike() {
        RainWalk x = Check.of("world hour 5;rain drops 0 down 1 wind north 0 chance 1;rain drops 1 down 1 wind east 1 chance 1;"
            + "rain drops 1 down 2 wind east 3 chance 1;place a;place b;road a east 6 b;road a east 6 b awning 6;"
            + "walker p plain broad 1 deep 1 high 1 from 2 to 9;walker q plain broad 1 deep 1 high 1 from 1 to 6;"
            + "walker s plain broad 1 deep 2 high 3 from 4 to 9");
        for (int w = 0; w < 3; w++) {
            alike(x, w, 0, 0, w == 0 ? 2 : w == 1 ? 1 : 4);
            alike(x, w, 1, 1, w == 0 ? 2 : w == 1 ? 1 : 4);
        }
        // top and front together are speed over speed: all faster than the air are alike
        alike(x, 0, 0, 1, 2);
        Check.granted("not even where it falls faster", x, x.even(1, 0, 0, 2), 0);
        Check.granted("best, the slowest of those alike", x, x.best(1, 0, 0, 1), 1);
        Check.granted("worst, the slowest of those alike", x, x.worst(1, 0, 0, 1), 1);
        Check.granted("even at all speeds", x, x.even(1, 0, 0, 1), 1);
        Check.granted("best is just with the rain", x, x.best(1, 0, 0, 2), 3);
        Check.granted("worst is the slowest", x, x.worst(1, 0, 0, 2), 1);
        RainWalk y = Check.of("world hour 5;rain drops 1 down 2 wind east 2 chance 1;place a;place b;road a east 6 b;"
            + "walker p plain broad 1 deep 1 high 1 from 2 to 4;walker q plain broad 1 deep 1 high 1 from 2 to 3;"
            + "walker r plain broad 1 deep 1 high 1 from 1 to 2");
        Check.granted("alike from the air on", y, y.even(0, 0, 0, 0), 1);
        Check.granted("best of them", y, y.best(0, 0, 0, 0), 2);
        Check.granted("not alike below it", y, y.even(2, 0, 0, 0), 0);
        Check.granted("best is the fastest", y, y.best(2, 0, 0, 0), 2);
        Check.granted("worst is the slowest", y, y.worst(2, 0, 0, 0), 1);
        Check.fraction("saves", y.saves(2, 0, 0, 0, false), y.saves(2, 0, 0, 0, true), 12, 1);
    }

    private static void worstAtEitherEnd() {
        RainWalk x = Check.of("world hour 5;rain drops 1 down 1 wind east 4 chance 1;place a;place b;road a east 9 b;"
            + "walker p plain broad 1 deep 1 high 1 from 3 to 9;walker q plain broad 1 deep 1 high 1 from 4 to 9;"
            + "walker r plain broad 1 deep 1 high 1 from 3 to 8;walker s plain broad 1 deep 1 high 2 from 3 to 9");
        // 3: 2/3, 4: 1/4, 8: 5/8, 9: 6/9 of nine
        wet(x, 6, 1, 0, 0, 0, 0, 3);
        wet(x, 6, 1, 0, 0, 0, 0, 9);
        Check.granted("the slowest and the fastest are alike: the slowest", x, x.worst(0, 0, 0, 0), 3);
        Check.granted("the fastest", x, x.worst(1, 0, 0, 0), 9);
        Check.granted("the slowest", x, x.worst(2, 0, 0, 0), 3);
        Check.granted("the fastest, by its front", x, x.worst(3, 0, 0, 0), 9);
        for (int w = 0; w < 4; w++) {
            Check.granted("best, just with the rain", x, x.best(w, 0, 0, 0), 4);
            Check.granted("not even", x, x.even(w, 0, 0, 0), 0);
        }
        Check.fraction("saves", x.saves(0, 0, 0, 0, false), x.saves(0, 0, 0, 0, true), 15, 4);
        Check.fraction("saves nothing", x.saves(1, 0, 0, 0, false), x.saves(1, 0, 0, 0, true), 0, 1);
    }

    private static void alike(RainWalk x, int w, int r, int hour, int slowest) {
        Check.granted("even", x, x.even(w, r, 0, hour), 1);
        Check.granted("best is the slowest", x, x.best(w, r, 0, hour), slowest);
        Check.granted("worst is the slowest", x, x.worst(w, r, 0, hour), slowest);
        Check.fraction("saves nothing", x.saves(w, r, 0, hour, false), x.saves(w, r, 0, hour, true), 0, 1);
    }

    private static void oneSpeed() {
        for (int speed : new int[] {1, 9}) {
            RainWalk x = Check.of("world hour 5;rain drops 9 down 9 wind west 9 chance 100;place a;place b;road a east 60 b;"
                + "walker p plain broad 9 deep 9 high 9 from " + speed + " to " + speed);
            alike(x, 0, 0, 0, speed);
        }
    }

    private static void rounds() {
        RainWalk x = Check.of("world hour 5;rain drops 1 down 1 wind east 3 chance 0;rain drops 0 down 1 wind east 3 chance 1;place a;"
            + "place b;road a east 6 b;road a east 6 b awning 6;walker p plain broad 1 deep 1 high 1 from 1 to 6");
        // there at 3: 2; back at 6: (1 + 9) times 1
        Check.fraction("round, each at its own best", x.round(0, 0, 0, false), x.round(0, 0, 0, true), 12, 1);
        Check.fraction("round without drops", x.round(0, 0, 1, false), x.round(0, 0, 1, true), 0, 1);
        Check.fraction("round under an awning", x.round(0, 1, 0, false), x.round(0, 1, 0, true), 0, 1);
        Check.refused("round, hour 2", x, x.round(0, 0, 2, true), -1, 1);
    }

    private static void driestOfThoseAlike() {
        String road = "place a;place b;road a east 1 b;road a east 1 b awning 1;" + Worlds.WALKER;
        String one = ";rain drops 1 down 1 wind north 0 chance ";
        RainWalk x = Check.of(Worlds.HEAD + road + (one + 5).repeat(6));
        Check.granted("six alike: the first", x, x.driest(0, 0, 0), 0);
        RainWalk y = Check.of(Worlds.HEAD + road + (one + 5).repeat(5) + one + 4);
        Check.granted("the last is the driest", y, y.driest(0, 0, 1), 5);
        Check.granted("under an awning all are alike", y, y.driest(0, 1, 1), 0);
        RainWalk z = Check.of(Worlds.HEAD + road + one + 5 + (one + 4).repeat(3) + one + 5);
        Check.granted("the first of the least", z, z.driest(0, 0, 0), 1);
        RainWalk dry = Check.of(Worlds.HEAD + road + one + 100 + one + 0 + ";rain drops 0 down 1 wind north 0 chance 100");
        Check.granted("no chance and no drops are alike", dry, dry.driest(0, 0, 0), 1);
        RainWalk only = Check.of(Worlds.HEAD + road + one + 100);
        Check.granted("the only one", only, only.driest(0, 0, 0), 0);
        RainWalk means = Check.of(Worlds.HEAD + road + one + 50 + ";rain drops 5 down 1 wind north 0 chance 10");
        Check.granted("alike by chance times drops: the first", means, means.driest(0, 0, 0), 0);
    }

    // ---- lee

    private static String two(String one, String other, int wind) {
        return "world hour 5;rain drops 1 down 1 wind east " + wind + " chance 1;place a;place b;road a east 1 b;walker p " + one
            + " from 1 to 2;walker q " + other + " from 2 to 3";
    }

    /** "0 at least": fronts that are as great as the other one's, greater, smaller. */
    private static void leeOfNothing() {
        for (int high = 2; high <= 4; high++) {
            RainWalk x = Check.of(two("plain broad 1 deep 1 high 3", "plain broad 1 deep 1 high " + high, 0));
            // each top 1/2; the one ahead his front; the one behind what is left of his
            long due = 1 + 3 + Math.max(0, high - 3);
            Check.fraction("p ahead", x.lee(0, 1, 0, 0, 0, 2, false), x.lee(0, 1, 0, 0, 0, 2, true), due, 1);
            long turned = 1 + high + Math.max(0, 3 - high);
            Check.fraction("q ahead", x.lee(1, 0, 0, 0, 0, 2, false), x.lee(1, 0, 0, 0, 0, 2, true), turned, 1);
            RainWalk y = Check.of(two("plain broad 1 deep 1 high 3", "plain broad 1 deep 1 high " + high, 4));
            // from behind: the one behind his back; the one ahead what is left of his
            Check.fraction("p ahead, from behind", y.lee(0, 1, 0, 0, 0, 2, false), y.lee(0, 1, 0, 0, 0, 2, true),
                1 + high + Math.max(0, 3 - high), 1);
            Check.fraction("q ahead, from behind", y.lee(1, 0, 0, 0, 0, 2, false), y.lee(1, 0, 0, 0, 0, 2, true),
                1 + 3 + Math.max(0, high - 3), 1);
            RainWalk z = Check.of(two("plain broad 1 deep 1 high 3", "plain broad 1 deep 1 high " + high, 2));
            Check.fraction("just with the rain only the tops", z.lee(0, 1, 0, 0, 0, 2, false), z.lee(0, 1, 0, 0, 0, 2, true), 1, 1);
            Check.granted("it is alike then", z, z.first(0, 1, 0, 0, 0, 2), -2);
        }
    }

    /** "shields are held as they are alone", though in the lee it would be better over the head. */
    private static void leeOfAShield() {
        RainWalk x = Check.of(two("plain broad 1 deep 1 high 9", "shield 1 broad 1 deep 1 high 9", 0));
        Check.granted("alone it is held forward", x, x.held(1, 0, 0, 0, 2), 1);
        Check.fraction("behind", x.lee(0, 1, 0, 0, 0, 2, false), x.lee(0, 1, 0, 0, 0, 2, true), 1 + 9, 1);
        Check.fraction("ahead", x.lee(1, 0, 0, 0, 0, 2, false), x.lee(1, 0, 0, 0, 0, 2, true), 1 + 8, 1);
        Check.granted("the shield goes ahead", x, x.first(0, 1, 0, 0, 0, 2), 1);
        Check.granted("the shield goes ahead", x, x.first(1, 0, 0, 0, 0, 2), 0);
    }

    private static void whoGoesAhead() {
        RainWalk x = Check.of("world hour 5;rain drops 0 down 1 wind east 0 chance 1;rain drops 1 down 1 wind east 0 chance 0;place a;"
            + "place b;road a east 1 b;road a east 1 b awning 1;walker p plain broad 1 deep 1 high 3 from 1 to 1;"
            + "walker q shield 9 broad 1 deep 1 high 9 from 1 to 1");
        Check.granted("without drops it is alike", x, x.first(0, 1, 0, 0, 0, 1), -2);
        Check.granted("under an awning it is alike", x, x.first(0, 1, 1, 0, 1, 1), -2);
        Check.granted("the shield ahead, whatever the chance", x, x.first(0, 1, 0, 0, 1, 1), 1);
        Check.granted("the shield ahead, told first", x, x.first(1, 0, 0, 0, 1, 1), 0);
        RainWalk y = Check.of(two("plain broad 1 deep 1 high 3", "plain broad 1 deep 1 high 3", 0));
        Check.granted("two that are alike", y, y.first(0, 1, 0, 0, 0, 2), -2);
        Check.fraction("together", y.lee(0, 1, 0, 0, 0, 2, false), y.lee(0, 1, 0, 0, 0, 2, true), 4, 1);
    }
}
