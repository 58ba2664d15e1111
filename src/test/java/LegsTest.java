/** Promises 6 to 19: legs, best speed, lee. */
public final class LegsTest {
    private static final int MAX = Integer.MAX_VALUE;
    private static final int MIN = Integer.MIN_VALUE;

    /** The hour of rain 0 blows east 4 along the road 0, rain 1 north 3 across it, rain 2 has no wind, rain 3 no drops. */
    private static final String TEXT = "world hour 10;"
        + "rain drops 2 down 3 wind east 4 chance 50;"
        + "rain drops 1 down 2 wind north 3 chance 75;"
        + "rain drops 5 down 1 wind south 0 chance 0;"
        + "rain drops 0 down 9 wind west 9 chance 100;"
        + "place a;place b;place c;"
        + "road a east 12 b awning 4;"
        + "road b south 7 c;"
        + "road a west 3 c awning 3;"
        + "walker p plain broad 2 deep 1 high 5 from 1 to 9;"
        + "walker s shield 6 broad 3 deep 2 high 4 from 1 to 3;"
        + "walker k coat 40 broad 2 deep 1 high 5 from 3 to 4;"
        + "walker n bent 2 broad 2 deep 1 high 5 from 2 to 7";

    private static RainWalk x;

    public static void main(String[] args) {
        x = Check.of(TEXT);
        faces();
        wets();
        minutesAndAir();
        shields();
        speeds();
        lees();
        refusals();
        withoutRain();
        Check.end("LegsTest");
    }

    private static void face(int walker, int road, int way, int hour, int speed, int face, long up, long down) {
        Check.fraction("face(" + walker + "," + road + "," + way + "," + hour + "," + speed + "," + face + ")",
            x.face(walker, road, way, hour, speed, face, false), x.face(walker, road, way, hour, speed, face, true), up, down);
        Check.due("trouble()", x.trouble(), 0);
    }

    private static void faces() {
        face(0, 0, 0, 0, 3, 0, 32, 1);
        face(0, 0, 0, 0, 3, 1, 0, 1);
        face(0, 0, 0, 0, 3, 2, 160, 3);
        face(0, 0, 0, 0, 4, 1, 0, 1);
        face(0, 0, 0, 0, 4, 2, 0, 1);
        face(0, 0, 0, 0, 9, 1, 800, 9);
        face(0, 0, 0, 0, 9, 2, 0, 1);
        face(0, 0, 1, 0, 7, 1, 1760, 7);
        face(0, 0, 1, 0, 7, 2, 0, 1);
        face(0, 0, 0, 1, 3, 3, 0, 1);
        face(0, 0, 0, 1, 3, 4, 40, 1);
        face(0, 0, 1, 1, 3, 3, 40, 1);
        face(0, 0, 1, 1, 3, 4, 0, 1);
        face(0, 1, 0, 1, 7, 1, 100, 1);
        face(3, 1, 0, 0, 7, 3, 0, 1);
        face(3, 1, 0, 0, 7, 4, 72, 1);
        face(3, 1, 1, 0, 2, 3, 252, 1);
        face(0, 2, 0, 0, 1, 1, 0, 1);
        face(0, 0, 0, 3, 5, 0, 0, 1);
    }

    private static void wet(int walker, int road, int way, int hour, int speed, long up, long down) {
        Check.fraction("wet(" + walker + "," + road + "," + way + "," + hour + "," + speed + ")",
            x.wet(walker, road, way, hour, speed, false), x.wet(walker, road, way, hour, speed, true), up, down);
        Check.due("trouble()", x.trouble(), 0);
    }

    private static void mean(int walker, int road, int way, int hour, int speed, long up, long down) {
        Check.fraction("mean(" + walker + "," + road + "," + way + "," + hour + "," + speed + ")",
            x.mean(walker, road, way, hour, speed, false), x.mean(walker, road, way, hour, speed, true), up, down);
        Check.due("trouble()", x.trouble(), 0);
    }

    private static void wets() {
        wet(0, 0, 0, 0, 3, 256, 3);
        wet(0, 0, 0, 1, 3, 392, 3);
        wet(0, 0, 0, 3, 3, 0, 1);
        wet(0, 2, 1, 0, 3, 0, 1);
        wet(2, 0, 0, 0, 3, 256, 3);
        mean(0, 0, 0, 0, 3, 128, 3);
        mean(0, 0, 0, 1, 3, 98, 1);
        mean(0, 0, 0, 2, 3, 0, 1);
        mean(0, 0, 0, 3, 3, 0, 1);
    }

    private static void minutesAndAir() {
        Check.granted("minutes(0, 0, 1)", x, x.minutes(0, 0, 1), 12);
        Check.granted("minutes(0, 0, 6)", x, x.minutes(0, 0, 6), 2);
        Check.granted("minutes(0, 0, 7)", x, x.minutes(0, 0, 7), 2);
        Check.granted("minutes(0, 1, 6)", x, x.minutes(0, 1, 6), 2);
        Check.granted("minutes(0, 1, 7)", x, x.minutes(0, 1, 7), 1);
        Check.granted("minutes(0, 2, 9)", x, x.minutes(0, 2, 9), 1);
        Check.refused("minutes(4, 0, 1)", x, x.minutes(4, 0, 1), -1, 1);
        Check.refused("minutes(-1, 0, 1)", x, x.minutes(-1, 0, 1), -1, 1);
        Check.refused("minutes(0, 3, 10)", x, x.minutes(0, 3, 10), -1, 1);
        Check.refused("minutes(0, 0, 10)", x, x.minutes(0, 0, 10), -1, 2);
        Check.refused("minutes(0, 0, 0)", x, x.minutes(0, 0, 0), -1, 2);
        Check.refused("minutes(2, 0, 2)", x, x.minutes(2, 0, 2), -1, 2);
        Check.granted("air(0, 0, 0)", x, x.air(0, 0, 0), 4);
        Check.granted("air(0, 1, 0)", x, x.air(0, 1, 0), -4);
        Check.granted("air(0, 0, 1)", x, x.air(0, 0, 1), 0);
        Check.granted("air(1, 0, 1)", x, x.air(1, 0, 1), -3);
        Check.granted("air(1, 1, 1)", x, x.air(1, 1, 1), 3);
        Check.granted("air(2, 0, 0)", x, x.air(2, 0, 0), -4);
        Check.granted("air(2, 0, 3)", x, x.air(2, 0, 3), 9);
        Check.granted("air(1, 0, 2)", x, x.air(1, 0, 2), 0);
        Check.refused("air(3, 0, 0)", x, x.air(3, 0, 0), -100, 1);
        Check.refused("air(0, 2, 0)", x, x.air(0, 2, 0), -100, 1);
        Check.refused("air(0, -1, 0)", x, x.air(0, -1, 0), -100, 1);
        Check.refused("air(0, 0, 4)", x, x.air(0, 0, 4), -100, 1);
        Check.refused("air(MIN, 0, 0)", x, x.air(MIN, 0, MAX), -100, 1);
    }

    private static void shields() {
        Check.granted("held without one", x, x.held(0, 0, 0, 0, 1), -2);
        Check.granted("held with the wind", x, x.held(1, 0, 0, 0, 3), 0);
        Check.granted("held against the wind", x, x.held(1, 0, 1, 0, 1), 1);
        Check.granted("held, alike (speed is what falls)", x, x.held(1, 0, 0, 1, 2), 0);
        Check.granted("held, faster than it falls", x, x.held(1, 0, 0, 1, 3), 1);
        Check.granted("held under an awning all along", x, x.held(1, 2, 0, 0, 3), 0);
        Check.granted("held without drops", x, x.held(1, 0, 0, 3, 1), 0);
        face(1, 0, 0, 0, 3, 0, 0, 1);
        face(1, 0, 1, 0, 1, 0, 288, 1);
        face(1, 0, 1, 0, 1, 1, 480, 1);
        wet(1, 0, 1, 0, 1, 768, 1);
        RainWalk y = Check.of("world hour 5;rain drops 1 down 9 wind north 9 chance 1;place a;place b;road a south 1 b;"
            + "walker s shield 99 broad 1 deep 9 high 1 from 1 to 1;walker t shield 2 broad 1 deep 1 high 4 from 1 to 1");
        Check.granted("a shield takes no more off than there is", y, y.held(0, 0, 0, 0, 1), 0);
        Check.due("0 at least is left of the top", y.face(0, 0, 0, 0, 1, 0, false), 0);
        Check.due("the front is whole", y.face(0, 0, 0, 0, 1, 1, false), 10);
        Check.granted("forward it takes two off, above only one", y, y.held(1, 0, 0, 0, 1), 1);
        Check.due("off the front", y.face(1, 0, 0, 0, 1, 1, false), 20);
        Check.due("the top is whole", y.face(1, 0, 0, 0, 1, 0, false), 9);
    }

    private static void saves(int walker, int road, int way, int hour, long up, long down) {
        Check.fraction("saves(" + walker + "," + road + "," + way + "," + hour + ")",
            x.saves(walker, road, way, hour, false), x.saves(walker, road, way, hour, true), up, down);
        Check.due("trouble()", x.trouble(), 0);
    }

    private static void speeds() {
        Check.granted("best, just with the rain", x, x.best(0, 0, 0, 0), 4);
        saves(0, 0, 0, 0, 552, 1);
        Check.granted("worst", x, x.worst(0, 0, 0, 0), 1);
        Check.granted("best against it", x, x.best(0, 0, 1, 0), 9);
        Check.granted("best without drops: the slowest", x, x.best(0, 0, 0, 3), 1);
        Check.granted("worst without drops: the slowest", x, x.worst(0, 0, 0, 3), 1);
        Check.granted("even without drops", x, x.even(0, 0, 0, 3), 1);
        Check.granted("even under an awning", x, x.even(3, 2, 1, 0), 1);
        Check.granted("even is not", x, x.even(0, 0, 0, 0), 0);
        saves(0, 0, 0, 3, 0, 1);
        Check.granted("best of the coat", x, x.best(2, 0, 0, 0), 4);
        Check.granted("worst of the coat", x, x.worst(2, 0, 0, 0), 3);
        Check.fraction("round", x.round(0, 0, 0, false), x.round(0, 0, 0, true), 2392, 9);
        Check.fraction("round of the coat", x.round(2, 0, 0, false), x.round(2, 0, 0, true), 368, 1);
        Check.granted("driest, the first of those alike", x, x.driest(0, 0, 0), 2);
        Check.granted("driest under an awning", x, x.driest(0, 2, 1), 0);
        RainWalk y = Check.of("world hour 5;rain drops 2 down 1 wind east 2 chance 60;rain drops 2 down 1 wind east 2 chance 50;"
            + "rain drops 1 down 1 wind east 2 chance 99;place a;place b;road a east 9 b;walker p plain broad 1 deep 1 high 1 from 1 to 3;"
            + "walker q plain broad 1 deep 1 high 1 from 5 to 6");
        Check.granted("driest by chance and drops", y, y.driest(0, 0, 0), 2);
        Check.granted("driest of the chance 50 and 2 drops", y, y.driest(1, 0, 0), 2);
        Check.granted("best is below the fastest", y, y.best(0, 0, 0, 0), 2);
        Check.granted("worst is the slowest", y, y.worst(0, 0, 0, 0), 1);
        Check.granted("worst of the quick one is the fastest", y, y.worst(1, 0, 0, 0), 6);
    }

    private static void lee(int ahead, int behind, int way, int hour, int speed, long up, long down) {
        Check.fraction("lee(" + ahead + "," + behind + ", 0," + way + "," + hour + "," + speed + ")",
            x.lee(ahead, behind, 0, way, hour, speed, false), x.lee(ahead, behind, 0, way, hour, speed, true), up, down);
        Check.due("trouble()", x.trouble(), 0);
    }

    private static void lees() {
        lee(0, 3, 1, 0, 3, 1504, 3);
        lee(3, 0, 1, 0, 3, 1504, 3);
        lee(1, 0, 1, 0, 3, 352, 1);
        lee(0, 1, 1, 0, 3, 1504, 3);
        Check.granted("first, it is alike", x, x.first(0, 3, 0, 1, 0, 3), -2);
        Check.granted("first, the second", x, x.first(0, 1, 0, 1, 0, 3), 1);
        Check.granted("first, the first", x, x.first(1, 0, 0, 1, 0, 3), 0);
        lee(0, 3, 0, 0, 2, 352, 1);
        lee(3, 0, 0, 0, 2, 352, 1);
        Check.granted("first, from behind", x, x.first(0, 3, 0, 0, 0, 3), -2);
        wet(0, 2, 0, 0, 1, 0, 1);
        Check.granted("first, behind another leg", x, x.first(1, 0, 0, 1, 0, 3), 0);
        Check.refused("lee, one walker", x, x.lee(1, 1, 0, 0, 0, 3, true), -1, 1);
        Check.refused("lee, no such walker", x, x.lee(1, 4, 0, 0, 0, 3, true), -1, 1);
        Check.refused("lee, no such walker ahead", x, x.lee(-1, 0, 0, 0, 0, 3, true), -1, 1);
        Check.refused("lee, no such road", x, x.lee(0, 1, 3, 0, 0, 9, true), -1, 1);
        Check.refused("lee, no such way", x, x.lee(0, 1, 0, 2, 0, 3, true), -1, 1);
        Check.refused("lee, no such hour", x, x.lee(0, 1, 0, 0, 4, 3, true), -1, 1);
        Check.refused("lee, a speed of the one ahead", x, x.lee(0, 1, 0, 0, 0, 4, true), -1, 2);
        Check.refused("lee, a speed of the one behind", x, x.lee(1, 0, 0, 0, 0, 4, true), -1, 2);
        Check.refused("first, one walker", x, x.first(2, 2, 0, 0, 0, 3), -1, 1);
        Check.refused("first, no speed of both", x, x.first(1, 2, 0, 0, 0, 1), -1, 2);
    }

    private static void refusals() {
        int[][] noSuch = {{4, 0, 0, 0}, {-1, 0, 0, 0}, {0, 3, 0, 0}, {0, -1, 0, 0}, {0, 0, 2, 0}, {0, 0, -1, 0}, {0, 0, 0, 4},
            {0, 0, 0, -1}, {MAX, MIN, MAX, MIN}};
        for (int[] a : noSuch) {
            String arguments = "(" + a[0] + "," + a[1] + "," + a[2] + "," + a[3] + ")";
            for (int speed : new int[] {1, 0, 10, MAX}) {
                Check.refused("face" + arguments, x, x.face(a[0], a[1], a[2], a[3], speed, 0, false), -1, 1);
                Check.refused("wet" + arguments, x, x.wet(a[0], a[1], a[2], a[3], speed, true), -1, 1);
                Check.refused("mean" + arguments, x, x.mean(a[0], a[1], a[2], a[3], speed, false), -1, 1);
                Check.refused("held" + arguments, x, x.held(a[0], a[1], a[2], a[3], speed), -1, 1);
            }
            Check.refused("best" + arguments, x, x.best(a[0], a[1], a[2], a[3]), -1, 1);
            Check.refused("saves" + arguments, x, x.saves(a[0], a[1], a[2], a[3], true), -1, 1);
            Check.refused("worst" + arguments, x, x.worst(a[0], a[1], a[2], a[3]), -1, 1);
            Check.refused("even" + arguments, x, x.even(a[0], a[1], a[2], a[3]), -1, 1);
        }
        for (int speed : new int[] {0, -1, 2, 5, MAX, MIN}) {
            Check.refused("face at " + speed, x, x.face(2, 0, 0, 0, speed, 0, true), -1, 2);
            Check.refused("wet at " + speed, x, x.wet(2, 0, 0, 0, speed, false), -1, 2);
            Check.refused("mean at " + speed, x, x.mean(2, 0, 0, 0, speed, true), -1, 2);
            Check.refused("held at " + speed, x, x.held(2, 0, 0, 0, speed), -1, 2);
        }
        for (int face : new int[] {-1, 5, MAX, MIN}) {
            Check.refused("face " + face, x, x.face(0, 0, 0, 0, 1, face, true), -1, 1);
            Check.refused("face " + face + " at no speed", x, x.face(0, 0, 0, 0, 0, face, true), -1, 1);
        }
        Check.refused("round, walker", x, x.round(4, 0, 0, false), -1, 1);
        Check.refused("round, road", x, x.round(0, 3, 0, false), -1, 1);
        Check.refused("round, hour", x, x.round(0, 0, 4, true), -1, 1);
        Check.refused("driest, walker", x, x.driest(-1, 0, 0), -1, 1);
        Check.refused("driest, road", x, x.driest(0, 3, 0), -1, 1);
        Check.refused("driest, way", x, x.driest(0, 0, 2), -1, 1);
    }

    private static void withoutRain() {
        RainWalk y = Check.of("world hour 5;place a;place b;road a east 1 b;walker p plain broad 1 deep 1 high 1 from 1 to 1");
        Check.refused("driest without hours", y, y.driest(0, 0, 0), -1, 6);
        Check.refused("driest without hours, no such way", y, y.driest(0, 0, 2), -1, 1);
        Check.refused("best without hours", y, y.best(0, 0, 0, 0), -1, 1);
        Check.refused("round without hours", y, y.round(0, 0, 0, true), -1, 1);
    }
}
