import java.util.function.ToLongFunction;

/** The boundaries that the promises 28 to 36 and Term III name for a DAY: draws, minutes, acts, undoing, marks. */
public final class EdgeDayTest {
    private static final int MAX = Integer.MAX_VALUE;
    private static final int MIN = Integer.MIN_VALUE;

    /** It rains in all hours told (0 up to 14 in minutes). */
    private static final String WET = "world hour 5;" + "rain drops 1 down 1 wind north 0 chance 100;".repeat(3)
        + "place a inn;place b tree 2;place c;road a east 6 b;road b east 1 c;road c east 60 a;"
        + "walker p plain broad 1 deep 1 high 1 from 1 to 3;walker k coat 6 broad 1 deep 1 high 1 from 1 to 3";

    public static void main(String[] args) {
        dayArguments();
        draws();
        sixDraws();
        aDayBeginsAnew();
        drawnAnew();
        dayRefusedStays();
        goRefusals();
        stayRefusals();
        refusedActsLeaveAll();
        lateLegs();
        lateStays();
        legsByHours();
        staysByHours();
        dryDays();
        treesAndInns();
        gotArguments();
        coats();
        withoutCoats();
        sixteenAreKept();
        undoingByKinds();
        undoNothing();
        threeMarks();
        backToMarks();
        backNothing();
        Check.end("EdgeDayTest");
    }

    // ---- promise 28

    private static void dayArguments() {
        RainWalk x = Check.of(Worlds.FULL);
        int[][] taken = {{0, 0, 0, 0}, {3, 7, 400, 65536}, {0, 7, 0, 65536}, {3, 0, 400, 0}, {2, 2, 399, 65535}, {1, 1, 1, 1}};
        for (int[] a : taken) {
            Check.due("day is taken", x.day(a[0], a[1], a[2], a[3]) >= 0 && x.trouble() == 0, true);
            Check.due("size(6)", x.size(6), a[0]);
            Check.due("size(7)", x.size(7), a[1]);
            Check.due("size(8)", x.size(8), a[2]);
        }
        for (int wrong : new int[] {-1, 4, MIN, MAX}) {
            Check.refused("day, walker " + wrong, x, x.day(wrong, 0, 0, 0), -1, 1);
            Check.refused("day, walker " + wrong + " and minute", x, x.day(wrong, 0, -1, 0), -1, 1);
            Check.refused("day, walker " + wrong + " and seed", x, x.day(wrong, 0, 0, 65537), -1, 1);
        }
        for (int wrong : new int[] {-1, 8, MIN, MAX}) {
            Check.refused("day, place " + wrong, x, x.day(0, wrong, 0, 0), -1, 1);
            Check.refused("day, place " + wrong + " and minute", x, x.day(0, wrong, 401, 0), -1, 1);
            Check.refused("day, place " + wrong + " and seed", x, x.day(0, wrong, 0, -1), -1, 1);
        }
        for (int wrong : new int[] {-1, 401, MIN, MAX}) {
            Check.refused("day, minute " + wrong, x, x.day(0, 0, wrong, 0), -1, 2);
        }
        for (int wrong : new int[] {-1, 65537, MIN, MAX}) {
            Check.refused("day, seed " + wrong, x, x.day(0, 0, 0, wrong), -1, 2);
        }
    }

    /** "it rains if that is below its chance": a SEED, its DRAW, the chances just below, at, above it. */
    private static void draws() {
        int[][] seedAndDraw = {{0, 74}, {1, 49}, {2, 24}, {3, 99}, {872, 74}, {873, 12}, {1748, 0}, {65535, 61}, {65536, 36}};
        for (int[] row : seedAndDraw) {
            for (int chance = Math.max(0, row[1] - 1); chance <= Math.min(100, row[1] + 1); chance++) {
                RainWalk x = Check.of(Worlds.SMALL + ";rain drops 1 down 1 wind north 0 chance " + chance);
                Check.granted("seed " + row[0] + ", chance " + chance, x, x.day(0, 0, 0, row[0]), row[1] < chance ? 1 : 0);
            }
            for (int sure = 0; sure <= 100; sure += 100) {
                RainWalk x = Check.of(Worlds.SMALL + (";rain drops 1 down 1 wind north 0 chance " + sure).repeat(6));
                Check.granted("seed " + row[0] + ", chance " + sure, x, x.day(0, 0, 0, row[0]), sure == 0 ? 0 : 63);
            }
        }
        RainWalk none = Check.of(Worlds.SMALL);
        Check.granted("no HOURS, seed 0", none, none.day(0, 0, 0, 0), 0);
        Check.granted("no HOURS, seed 65536", none, none.day(0, 0, 400, 65536), 0);
    }

    /** Of SEED 0 the draws are 74, 24, 52, 90, 41, 9. SEED 65,536 stays what it is. */
    private static void sixDraws() {
        int[] draws = {74, 24, 52, 90, 41, 9};
        for (int bits = 0; bits < 64; bits++) {
            StringBuilder text = new StringBuilder(Worlds.SMALL);
            StringBuilder same = new StringBuilder(Worlds.SMALL);
            for (int hour = 0; hour < 6; hour++) {
                int more = bits >> hour & 1;
                text.append(";rain drops 1 down 1 wind north 0 chance ").append(draws[hour] + more);
                same.append(";rain drops 1 down 1 wind north 0 chance ").append(36 + more);
            }
            RainWalk x = Check.of(text.toString());
            Check.granted("six draws", x, x.day(0, 0, 0, 0), bits);
            RainWalk y = Check.of(same.toString());
            Check.granted("six draws alike", y, y.day(0, 0, 0, 65536), bits);
        }
    }

    private static RainWalk inTheMidst() {
        RainWalk x = Check.of(WET);
        x.day(1, 1, 3, 0);
        x.stay(1);
        x.mark();
        x.go(1, 0, 1);
        x.go(1, 1, 1);
        x.mark();
        x.stay(2);
        return x;
    }

    private static void aDayBeginsAnew() {
        RainWalk x = inTheMidst();
        Check.due("two marks", x.size(10), 2);
        Check.due("four acts", x.size(9), 4);
        Check.granted("a day more", x, x.day(1, 1, 3, 0), 7);
        Check.due("nothing to undo", x.size(9), 0);
        Check.due("no MARKS", x.size(10), 0);
        for (int face = 0; face < 5; face++) {
            Check.fraction("got(" + face + ")", x.got(face, false), x.got(face, true), 0, 1);
        }
        Check.granted("not soaked", x, x.soaked(), 0);
        Check.refused("undo()", x, x.undo(), 6);
        Check.refused("back(0)", x, x.back(0), 1);
        Check.granted("the first MARK", x, x.mark(), 0);
    }

    /** Nothing of an earlier DAY's rain is left. */
    private static void drawnAnew() {
        RainWalk x = Check.of(Worlds.SMALL.replace("place a", "place a tree 1") + ";rain drops 1 down 1 wind north 0 chance 50"
            + ";rain drops 1 down 1 wind north 0 chance 25");
        // the draws: of 0: 74, 24; of 1: 49, 49; of 2: 24, 74; of 3: 99, 99
        int[][] rows = {{0, 2}, {1, 1}, {2, 1}, {3, 0}, {0, 2}, {3, 0}, {1, 1}};
        for (int[] row : rows) {
            Check.granted("day of " + row[0], x, x.day(0, 0, 0, row[0]), row[1]);
            x.stay(5);
            Check.due("the first hour", x.got(0, false), 5 * (row[1] & 1));
            x.stay(5);
            Check.due("both hours", x.got(0, false), 5 * (row[1] & 1) + 5 * (row[1] >> 1));
        }
    }

    private static void leavesAll(String call, int trouble, long none, ToLongFunction<RainWalk> refused) {
        RainWalk x = inTheMidst();
        Check.refused(call, x, refused.applyAsLong(x), none, trouble);
        State.stayed(call, x, inTheMidst());
    }

    private static void dayRefusedStays() {
        leavesAll("day, walker", 1, -1, x -> x.day(2, 0, 0, 0));
        leavesAll("day, place", 1, -1, x -> x.day(0, 3, 0, 0));
        leavesAll("day, minute", 2, -1, x -> x.day(0, 0, 401, 0));
        leavesAll("day, seed", 2, -1, x -> x.day(0, 0, 0, 65537));
    }

    // ---- promises 29 and 30: which refusal

    private static void goRefusals() {
        RainWalk x = Check.of(WET);
        Check.refused("go without a DAY", x, x.go(0, 0, 1), -1, 1);
        Check.refused("go without a DAY, no speed", x, x.go(0, 0, 4), -1, 1);
        x.day(0, 2, 400, 0);
        for (int wrong : new int[] {-1, 3, MIN, MAX}) {
            Check.refused("go, road " + wrong, x, x.go(wrong, 0, 1), -1, 1);
            Check.refused("go, road " + wrong + ", no speed", x, x.go(wrong, 0, 4), -1, 1);
        }
        for (int wrong : new int[] {-1, 2, MIN, MAX}) {
            Check.refused("go, way " + wrong, x, x.go(2, wrong, 1), -1, 1);
            Check.refused("go, way " + wrong + ", no speed", x, x.go(2, wrong, 0), -1, 1);
        }
        for (int wrong : new int[] {-1, 0, 4, MIN, MAX}) {
            Check.refused("go at " + wrong, x, x.go(2, 0, wrong), -1, 2);
            Check.refused("go at " + wrong + " from elsewhere", x, x.go(0, 0, wrong), -1, 2);
        }
        Check.refused("go from elsewhere", x, x.go(0, 0, 1), -1, 5);
        Check.refused("go back from elsewhere", x, x.go(0, 1, 1), -1, 5);
        Check.refused("go there where back begins", x, x.go(1, 0, 1), -1, 5);
        Check.refused("go back where there begins", x, x.go(2, 1, 1), -1, 5);
        Check.granted("go at the slowest", x, x.go(2, 0, 1), 460);
        Check.granted("go back at the fastest", x, x.go(2, 1, 3), 480);
        late(x, 960);
        Check.refused("speed ahead of no room", x, x.go(2, 1, 4), -1, 2);
        Check.refused("elsewhere ahead of no room", x, x.go(2, 0, 1), -1, 5);
        Check.refused("no room", x, x.go(2, 1, 1), -1, 3);
        Check.refused("road ahead of no room", x, x.go(3, 1, 1), -1, 1);
    }

    /** A new day in the inn, up to a minute. */
    private static void late(RainWalk x, int minute) {
        x.day(0, 0, 400, 0);
        for (int now = 400; now < minute; now += 60) {
            x.stay(Math.min(60, minute - now));
        }
        Check.due("the minute", x.size(8), minute);
    }

    private static void stayRefusals() {
        RainWalk x = Check.of(WET);
        for (int n : new int[] {1, 60, 0, 61, -1, MIN, MAX}) {
            Check.refused("stay(" + n + ") without a DAY", x, x.stay(n), 1);
        }
        x.day(0, 2, 0, 0);
        for (int n : new int[] {1, 60}) {
            Check.refused("stay(" + n + ") where nobody waits", x, x.stay(n), 5);
        }
        for (int n : new int[] {0, 61, -1, MIN, MAX}) {
            Check.refused("stay(" + n + ") where nobody waits", x, x.stay(n), 2);
        }
        x.day(0, 0, 0, 0);
        for (int n : new int[] {0, 61, -1, MIN, MAX}) {
            Check.refused("stay(" + n + ")", x, x.stay(n), 2);
        }
        Check.due("stay(1)", x.stay(1), true);
        Check.due("trouble()", x.trouble(), 0);
        Check.due("stay(60)", x.stay(60), true);
        Check.due("trouble()", x.trouble(), 0);
        Check.due("size(8)", x.size(8), 61);
        late(x, 940);
        Check.refused("a number ahead of no room", x, x.stay(61), 2);
        Check.refused("no room", x, x.stay(60), 3);
        Check.granted("a leg to where nobody waits", x, x.go(2, 1, 2), 970);
        Check.refused("not here ahead of no room", x, x.stay(60), 5);
        Check.refused("not here", x, x.stay(1), 5);
        Check.refused("a number ahead of not here and no room", x, x.stay(61), 2);
    }

    private static void refusedActsLeaveAll() {
        leavesAll("go, road", 1, -1, x -> x.go(3, 0, 1));
        leavesAll("go, way", 1, -1, x -> x.go(1, 2, 1));
        leavesAll("go, speed", 2, -1, x -> x.go(1, 0, 4));
        leavesAll("go, elsewhere", 5, -1, x -> x.go(2, 0, 1));
        leavesAll("stay, number", 2, 0, x -> x.stay(61) ? 1 : 0);
        leavesAll("back", 1, 0, x -> x.back(2) ? 1 : 0);
        leavesAll("back(-1)", 1, 0, x -> x.back(-1) ? 1 : 0);
        leavesAll("got", 1, -1, x -> x.got(5, false));
        leavesAll("least", 2, -1, x -> x.least(0, 0, 1, 0, 401, false));
        RainWalk x = Check.of(WET);
        late(x, 990);
        int acts = x.size(9);
        Check.refused("a leg behind 999", x, x.go(2, 1, 3), -1, 3);
        Check.refused("minutes behind 999", x, x.stay(10), 3);
        Check.due("the minute stays", x.size(8), 990);
        Check.due("the place stays", x.size(7), 0);
        Check.due("the acts stay", x.size(9), acts);
        RainWalk y = Check.of(WET);
        y.day(0, 2, 3, 0);
        Check.refused("stay where nobody waits", y, y.stay(1), 5);
        Check.due("the minute stays", y.size(8), 3);
        Check.due("nothing to undo", y.size(9), 0);
    }

    // ---- minutes

    private static void lateLegs() {
        RainWalk x = Check.of(WET);
        for (int minute = 992; minute <= 995; minute++) {
            late(x, minute);
            if (minute <= 993) {
                Check.granted("six minutes from " + minute, x, x.go(0, 0, 1), minute + 6);
                Check.due("size(8)", x.size(8), minute + 6);
            } else {
                Check.refused("six minutes from " + minute, x, x.go(0, 0, 1), -1, 3);
            }
        }
        late(x, 997);
        Check.granted("two minutes to 999", x, x.go(0, 0, 3), 999);
        Check.refused("a minute behind it", x, x.go(1, 0, 1), -1, 3);
        Check.due("undo still goes", x.undo(), true);
        Check.due("size(8)", x.size(8), 997);
    }

    private static void lateStays() {
        RainWalk x = Check.of(WET);
        late(x, 939);
        Check.due("stay(60) to 999", x.stay(60), true);
        Check.refused("a minute more", x, x.stay(1), 3);
        late(x, 998);
        Check.refused("two minutes", x, x.stay(2), 3);
        Check.due("one minute", x.stay(1), true);
        Check.due("size(8)", x.size(8), 999);
    }

    /** The hours of five minutes end with 14: a leg that begins in minute 14 is wet, one in 15 dry. */
    private static void legsByHours() {
        RainWalk x = Check.of(WET);
        for (int minute : new int[] {0, 4, 5, 14, 15, 16, 400}) {
            Check.granted("day", x, x.day(0, 0, minute, 0), 7);
            Check.granted("go", x, x.go(0, 0, 1), minute + 6);
            Check.fraction("wetness of a leg from " + minute, x.wetness(false), x.wetness(true), minute < 15 ? 12 : 0, 1);
        }
        RainWalk y = Check.of("world hour 60;" + "rain drops 1 down 1 wind north 0 chance 0;".repeat(5)
            + "rain drops 1 down 1 wind north 0 chance 100;place a;place b;road a east 3 b;" + Worlds.WALKER);
        for (int minute : new int[] {0, 299, 300, 359, 360, 400}) {
            Check.granted("day", y, y.day(0, 0, minute, 0), 32);
            y.go(0, 0, 1);
            Check.fraction("wetness from " + minute, y.wetness(false), y.wetness(true), minute >= 300 && minute < 360 ? 6 : 0, 1);
        }
    }

    private static void staysByHours() {
        RainWalk x = Check.of(WET);
        int[][] rows = {{0, 1, 1}, {0, 60, 15}, {14, 1, 1}, {14, 2, 1}, {13, 60, 2}, {15, 1, 0}, {15, 60, 0}, {4, 2, 2}};
        for (int[] row : rows) {
            x.day(0, 1, row[0], 0);
            Check.due("stay(" + row[1] + ")", x.stay(row[1]), true);
            Check.fraction("got from " + row[0], x.got(0, false), x.got(0, true), 2 * row[2], 1);
            Check.due("one act", x.size(9), 1);
        }
        // of SEED 0 only the hours 1 and 2 are below these chances
        RainWalk y = Check.of("world hour 5;rain drops 1 down 1 wind north 0 chance 74;rain drops 0 down 1 wind north 0 chance 25;"
            + "rain drops 1 down 1 wind north 0 chance 53;place b tree 2;" + Worlds.WALKER);
        Check.granted("day", y, y.day(0, 0, 4, 0), 6);
        Check.due("stay(1)", y.stay(1), true);
        Check.due("dry", y.got(0, false), 0);
        Check.due("stay(1)", y.stay(1), true);
        Check.due("it drips in an hour of rain without drops, too", y.got(0, false), 2);
        Check.due("stay(60)", y.stay(60), true);
        Check.due("up to minute 14", y.got(0, false), 20);
    }

    /** What is drawn counts, not the chance. */
    private static void dryDays() {
        RainWalk x = Check.of("world hour 5;rain drops 1 down 1 wind north 0 chance 74;place a tree 9;place b;road a east 1 b;" + Worlds.WALKER);
        Check.granted("a dry day", x, x.day(0, 0, 0, 0), 0);
        x.stay(1);
        x.go(0, 0, 1);
        Check.fraction("nothing", x.wetness(false), x.wetness(true), 0, 1);
        Check.granted("a wet day", x, x.day(0, 0, 0, 1), 1);
        x.stay(1);
        x.go(0, 0, 1);
        Check.fraction("something", x.wetness(false), x.wetness(true), 11, 1);
    }

    private static void treesAndInns() {
        String text = "world hour 5;rain drops 9 down 9 wind north 9 chance 100;place a inn;place b tree 0;place c tree 9;"
            + "walker p bent 8 broad 9 deep 9 high 9 from 1 to 1;walker q shield 5 broad 1 deep 5 high 1 from 1 to 1;"
            + "walker r shield 4 broad 1 deep 5 high 1 from 1 to 1;walker s shield 99 broad 1 deep 5 high 1 from 1 to 1";
        long[] top = {153, 0, 1, 0};
        for (int w = 0; w < 4; w++) {
            RainWalk x = Check.of(text);
            for (int place = 0; place < 3; place++) {
                x.day(w, place, 0, 0);
                Check.due("stay(1)", x.stay(1), true);
                Check.fraction("top of " + w + " at " + place, x.got(0, false), x.got(0, true), place < 2 ? 0 : 9 * top[w], 1);
                for (int face = 1; face < 5; face++) {
                    Check.fraction("nothing else", x.got(face, false), x.got(face, true), 0, 1);
                }
            }
        }
    }

    // ---- promises 31 to 33

    private static void gotArguments() {
        RainWalk x = Check.of(WET);
        for (int face : new int[] {0, 4, -1, 5}) {
            Check.refused("got(" + face + ") without a DAY", x, x.got(face, true), -1, 1);
        }
        x.day(0, 0, 0, 0);
        for (int face = 0; face < 5; face++) {
            Check.granted("got(" + face + ")", x, x.got(face, false), 0);
            Check.granted("got(" + face + "), lower", x, x.got(face, true), 1);
        }
        for (int face : new int[] {-1, 5, MIN, MAX}) {
            Check.refused("got(" + face + ")", x, x.got(face, false), -1, 1);
            Check.refused("got(" + face + "), lower", x, x.got(face, true), -1, 1);
        }
        RainWalk y = Check.of("world hour 60;rain drops 1 down 1 wind north 0 chance 100;place a;place b;" + "road a east 1 b;"
            + "walker p plain broad 1 deep 1 high 1 from 7 to 9");
        y.day(0, 0, 0, 0);
        for (int speed = 7; speed <= 9; speed++) {
            y.go(0, (speed + 1) % 2, speed);
        }
        // 1/7 and 1/8 and 1/9
        Check.fraction("top", y.got(0, false), y.got(0, true), 191, 504);
        Check.fraction("front", y.got(1, false), y.got(1, true), 3, 1);
        Check.fraction("wetness", y.wetness(false), y.wetness(true), 191 + 3 * 504, 504);
        Check.world(y, "world hour 60;rain drops 1 down 1 wind north 0 chance 100;place a;place b;road a east 1 b;"
            + "walker p coat 3 broad 1 deep 1 high 1 from 5 to 9");
        y.day(0, 0, 0, 0);
        y.go(0, 0, 5);
        y.go(0, 1, 7);
        y.go(0, 0, 8);
        y.go(0, 1, 9);
        Check.fraction("the greatest lower", y.got(0, false), y.got(0, true), 1459, 2520);
        Check.fraction("wetness in a coat of 3", y.wetness(false), y.wetness(true), 1459 + 2520, 2520);
    }

    /** "less what a coat holds, 0 at least", "more was got than it holds": just below, at, above it. */
    private static void coats() {
        RainWalk x = Check.of(WET);
        x.day(1, 1, 0, 0);
        int[][] rows = {{2, 0, 0}, {4, 0, 0}, {6, 0, 0}, {8, 2, 1}, {10, 4, 1}};
        Check.granted("soaked by nothing", x, x.soaked(), 0);
        for (int[] row : rows) {
            x.stay(1);
            Check.due("got", x.got(0, false), row[0]);
            Check.fraction("wetness", x.wetness(false), x.wetness(true), row[1], 1);
            Check.granted("soaked", x, x.soaked(), row[2]);
        }
        x.undo();
        x.undo();
        Check.granted("not soaked, undone", x, x.soaked(), 0);
        coat(0, 1, 9, 10, 9, 1);
        coat(1, 1, 9, 1, 9, 1);
        coat(2, 1, 9, 0, 1, 0);
        coat(999, 1, 1, 0, 1, 0);
    }

    private static void coat(int holds, int length, int speed, long up, long down, int soaked) {
        RainWalk x = Check.of("world hour 5;rain drops 1 down 1 wind north 0 chance 100;place a;place b;road a east " + length
            + " b;walker k coat " + holds + " broad 1 deep 1 high 1 from 1 to 9");
        x.day(0, 0, 0, 0);
        Check.granted("dry at first", x, x.soaked(), 0);
        Check.fraction("dry at first", x.wetness(false), x.wetness(true), 0, 1);
        x.go(0, 0, speed);
        Check.fraction("wetness in a coat of " + holds, x.wetness(false), x.wetness(true), up, down);
        Check.granted("soaked in a coat of " + holds, x, x.soaked(), soaked);
    }

    private static void withoutCoats() {
        RainWalk x = Check.of(Worlds.FULL);
        Check.refused("soaked without a DAY", x, x.soaked(), -1, 1);
        Check.refused("wetness without a DAY", x, x.wetness(true), -1, 1);
        for (int w : new int[] {0, 1, 3}) {
            x.day(w, 0, 0, 0);
            Check.granted("soaked without a coat", x, x.soaked(), -2);
        }
        x.day(2, 0, 0, 0);
        Check.granted("soaked in a coat", x, x.soaked(), 0);
    }

    // ---- promise 34

    private static void sixteenAreKept() {
        for (int acts : new int[] {1, 15, 16, 17, 18, 33}) {
            RainWalk x = Check.of(WET);
            x.day(0, 1, 0, 0);
            for (int i = 0; i < acts; i++) {
                Check.due("stay(1)", x.stay(1), true);
            }
            int kept = Math.min(acts, 16);
            Check.due("acts that can be undone", x.size(9), kept);
            for (int i = 1; i <= kept; i++) {
                Check.due("undo", x.undo(), true);
                Check.due("trouble()", x.trouble(), 0);
                Check.due("the minute", x.size(8), acts - i);
                Check.due("what was got", x.got(0, false), 2 * Math.min(15, acts - i));
                Check.due("acts left", x.size(9), kept - i);
            }
            Check.refused("undo of none", x, x.undo(), 6);
            Check.due("the minute stays", x.size(8), acts - kept);
            Check.due("stay(1)", x.stay(1), true);
            Check.due("one act anew", x.size(9), 1);
            Check.due("undo", x.undo(), true);
            Check.refused("undo of none", x, x.undo(), 6);
        }
        RainWalk y = Check.of(WET);
        y.day(0, 1, 0, 0);
        for (int i = 0; i < 40; i++) {
            y.stay(2);
            y.stay(1);
            Check.due("undo", y.undo(), true);
            Check.due("acts", y.size(9), Math.min(i + 1, 15));
            Check.due("the minute", y.size(8), 2 * i + 2);
        }
    }

    private static void undoingByKinds() {
        RainWalk x = Check.of(WET);
        x.day(0, 0, 4, 0);
        Check.granted("go", x, x.go(0, 0, 3), 6);
        Check.due("stay", x.stay(60), true);
        Check.granted("go", x, x.go(1, 0, 1), 67);
        Check.due("three acts: minutes waited at once are one", x.size(9), 3);
        Check.due("undo the leg", x.undo(), true);
        Check.due("at b", x.size(7), 1);
        Check.due("in 66", x.size(8), 66);
        Check.due("undo the waiting", x.undo(), true);
        Check.due("in 6", x.size(8), 6);
        Check.due("got by the leg", x.wetness(false), 8);
        Check.due("undo the first leg", x.undo(), true);
        Check.due("at a", x.size(7), 0);
        Check.due("in 4", x.size(8), 4);
        Check.due("dry", x.wetness(false), 0);
        Check.refused("undo of none", x, x.undo(), 6);
    }

    private static void undoNothing() {
        RainWalk x = Check.of(WET);
        Check.refused("undo without a DAY", x, x.undo(), 6);
        x.day(0, 1, 0, 0);
        Check.refused("undo in a new DAY", x, x.undo(), 6);
        x.go(0, 0, 1);
        x.stay(0);
        Check.refused("undo of refused acts", x, x.undo(), 6);
        x.mark();
        Check.refused("a MARK is no ACT", x, x.undo(), 6);
        x.stay(1);
        x.back(0);
        Check.refused("undo behind back()", x, x.undo(), 6);
        Check.due("the minute", x.size(8), 0);
    }

    // ---- promises 35 and 36

    private static void threeMarks() {
        RainWalk x = Check.of(WET);
        Check.refused("mark without a DAY", x, x.mark(), -1, 1);
        x.day(0, 1, 0, 0);
        for (int i = 0; i < 3; i++) {
            Check.due("MARKS", x.size(10), i);
            Check.granted("mark " + i, x, x.mark(), i);
            x.stay(1);
        }
        for (int i = 0; i < 2; i++) {
            Check.refused("a fourth", x, x.mark(), -1, 3);
            Check.due("MARKS", x.size(10), 3);
        }
        Check.due("back(2): it is as it was", x.back(2), true);
        Check.due("the minute", x.size(8), 2);
        Check.refused("a fourth behind back()", x, x.mark(), -1, 3);
        x.undo();
        Check.due("MARKS stay by undo", x.size(10), 3);
        x.day(0, 1, 0, 0);
        Check.granted("the first of a new DAY", x, x.mark(), 0);
        Check.world(x, WET);
        Check.refused("mark in a new WORLD", x, x.mark(), -1, 1);
    }

    private static void backToMarks() {
        RainWalk x = Check.of(WET);
        x.day(0, 0, 0, 0);
        x.mark();
        x.go(0, 0, 2);
        x.mark();
        x.stay(3);
        x.go(1, 0, 1);
        x.mark();
        int[][] due = {{0, 0, 0}, {1, 3, 9}, {2, 7, 17}};
        for (int mark : new int[] {2, 0, 1, 1, 2, 0}) {
            Check.due("back(" + mark + ")", x.back(mark), true);
            Check.due("trouble()", x.trouble(), 0);
            Check.due("the place", x.size(7), due[mark][0]);
            Check.due("the minute", x.size(8), due[mark][1]);
            Check.fraction("wetness", x.wetness(false), x.wetness(true), due[mark][2], 1);
            Check.due("nothing to undo", x.size(9), 0);
            Check.due("all MARKS stay", x.size(10), 3);
            x.go(mark == 0 ? 0 : 1, mark == 2 ? 1 : 0, 1);
            x.stay(2);
        }
        Check.due("back to the same where he is", x.back(1) && x.back(1), true);
        Check.due("the minute", x.size(8), 3);
    }

    private static void backNothing() {
        RainWalk x = Check.of(WET);
        for (int mark : new int[] {0, -1, 3, MIN, MAX}) {
            Check.refused("back(" + mark + ") without a DAY", x, x.back(mark), 1);
        }
        x.day(0, 1, 0, 0);
        for (int marks = 0; marks <= 3; marks++) {
            x.stay(1);
            for (int mark : new int[] {marks, -1, 3, 4, MIN, MAX}) {
                Check.refused("back(" + mark + ") of " + marks, x, x.back(mark), 1);
            }
            Check.due("acts stay", x.size(9), marks + 1);
            Check.due("the minute stays", x.size(8), marks + 1);
            x.mark();
        }
        x.day(0, 1, 0, 0);
        Check.refused("back(0) in a new DAY", x, x.back(0), 1);
    }
}
