import java.util.Map;
import java.util.function.ToLongFunction;

/** The boundaries that the promises 37 to 41 and Term IV name: what is told of walkers, roads, sizes, and TROUBLE. */
public final class EdgeToldTest {
    private static final int MAX = Integer.MAX_VALUE;
    private static final int MIN = Integer.MIN_VALUE;

    public static void main(String[] args) {
        walkers();
        roads();
        noWorld();
        ledByNumbers();
        ledNowhere();
        sizesBeside();
        sizesOfNothing();
        sizesOfAll();
        everyTrouble();
        troubleStays();
        troubleOfEachCall();
        lowestTerms();
        constants();
        Check.end("EdgeToldTest");
    }

    // ---- promises 37 and 38

    private static void walkers() {
        RainWalk x = Check.of(Worlds.FULL);
        int[][] due = {{0, 0, 2, 10, 5, 2, 6}, {3, 6, 6, 12, 8, 1, 3}, {2, 40, 81, 81, 81, 1, 1}, {1, 8, 153, 9, 17, 1, 9}};
        for (int w = 0; w < 4; w++) {
            for (int what = 0; what < 7; what++) {
                Check.granted("walker(" + w + ", " + what + ")", x, x.walker(w, what), due[w][what]);
            }
            for (int wrong : new int[] {-1, 7, MIN, MAX}) {
                Check.refused("walker(" + w + ", " + wrong + ")", x, x.walker(w, wrong), -1, 1);
            }
        }
        for (int wrong : new int[] {-1, 4, MIN, MAX}) {
            for (int what : new int[] {0, 6, -1, 7}) {
                Check.refused("walker(" + wrong + ", " + what + ")", x, x.walker(wrong, what), -1, 1);
            }
        }
        RainWalk y = Check.of(Worlds.HEAD + "place a;walker p coat 0 broad 1 deep 1 high 1 from 1 to 1;walker q coat 999 broad 9 deep 1 "
            + "high 1 from 9 to 9;walker r bent 1 broad 1 deep 9 high 2 from 1 to 9;walker s shield 99 broad 1 deep 1 high 9 from 5 to 5");
        int[][] ends = {{2, 0, 1, 1, 1, 1, 1}, {2, 999, 9, 9, 1, 9, 9}, {1, 1, 10, 1, 10, 1, 9}, {3, 99, 1, 9, 9, 5, 5}};
        for (int w = 0; w < 4; w++) {
            for (int what = 0; what < 7; what++) {
                Check.granted("walker(" + w + ", " + what + ")", y, y.walker(w, what), ends[w][what]);
            }
        }
        RainWalk one = Check.of(Worlds.SMALL);
        Check.granted("the only walker", one, one.walker(0, 6), 1);
        Check.refused("walker 1 of one", one, one.walker(1, 0), -1, 1);
    }

    private static void roads() {
        RainWalk x = Check.of(Worlds.FULL);
        int[][] due = {{0, 1, 1, 12, 4}, {1, 2, 0, 10, 0}, {2, 3, 1, 1, 0}, {3, 4, 1, 1, 0}, {4, 5, 1, 1, 0}, {5, 6, 1, 1, 0},
            {0, 2, 0, 1, 1}, {0, 3, 3, 2, 0}, {1, 4, 2, 3, 0}, {2, 5, 3, 4, 0}, {3, 7, 2, 5, 5}, {6, 7, 1, 60, 0}};
        for (int r = 0; r < 12; r++) {
            for (int what = 0; what < 5; what++) {
                Check.granted("road(" + r + ", " + what + ")", x, x.road(r, what), due[r][what]);
            }
            for (int wrong : new int[] {-1, 5, MIN, MAX}) {
                Check.refused("road(" + r + ", " + wrong + ")", x, x.road(r, wrong), -1, 1);
            }
        }
        for (int wrong : new int[] {-1, 12, MIN, MAX}) {
            for (int what : new int[] {0, 4, -1, 5}) {
                Check.refused("road(" + wrong + ", " + what + ")", x, x.road(wrong, what), -1, 1);
            }
        }
        RainWalk none = Check.of(Worlds.SMALL);
        Check.refused("road(0, 0) of none", none, none.road(0, 0), -1, 1);
        RainWalk y = Check.of(Worlds.SMALL + ";place b;road b west 1 a awning 0;road a south 60 b awning 60");
        int[][] ends = {{1, 0, 3, 1, 0}, {0, 1, 2, 60, 60}};
        for (int r = 0; r < 2; r++) {
            for (int what = 0; what < 5; what++) {
                Check.granted("road(" + r + ", " + what + ")", y, y.road(r, what), ends[r][what]);
            }
        }
        Check.refused("road 2 of two", y, y.road(2, 0), -1, 1);
    }

    private static void noWorld() {
        RainWalk x = new RainWalk();
        for (int i = -1; i < 3; i++) {
            Check.refused("walker(" + i + ", 0)", x, x.walker(i, 0), -1, 1);
            Check.refused("road(" + i + ", 0)", x, x.road(i, 0), -1, 1);
        }
        Check.refused("a FAULT", x, Check.world(x, Worlds.FULL + "!"), -1, 4);
        Check.refused("nothing is told by a text with a FAULT", x, x.walker(0, 0), -1, 1);
        for (int what = 0; what < 6; what++) {
            Check.due("size(" + what + ")", x.size(what), 0);
        }
    }

    // ---- promise 39

    private static void ledByNumbers() {
        int[][] due = {{0, 6, 7}, {0, 1, 8}, {1, 2, 6, 9}, {2, 3, 7, 10}, {3, 4, 8}, {4, 5, 9}, {5, 11}, {10, 11}};
        RainWalk x = Check.of(Worlds.FULL);
        for (int place = 0; place < 8; place++) {
            x.day(0, place, 0, 0);
            led(x, due[place]);
        }
        RainWalk all = Check.of("world hour 5;place a;place b;place c;" + "road a east 1 b;road b east 1 a;".repeat(6) + Worlds.WALKER);
        all.day(0, 1, 0, 0);
        led(all, 0, 1, 2, 3, 4, 5, 6, 7, 8, 9, 10, 11);
        Check.granted("go", all, all.go(11, 0, 1), 1);
        led(all, 0, 1, 2, 3, 4, 5, 6, 7, 8, 9, 10, 11);
        all.day(0, 2, 0, 0);
        led(all);
        RainWalk two = Check.of(Worlds.FULL);
        two.day(0, 0, 0, 0);
        led(two, 0, 6, 7);
        two.go(7, 0, 2);
        led(two, 2, 3, 7, 10);
        two.undo();
        led(two, 0, 6, 7);
    }

    private static void led(RainWalk x, int... due) {
        for (int i = 0; i < due.length; i++) {
            Check.due("led(" + i + ")", x.led(i), due[i]);
        }
        for (int wrong : new int[] {-1, due.length, due.length + 1, 12, MIN, MAX}) {
            Check.due("led(" + wrong + ") throws", Check.ledThrows(x, wrong), true);
        }
    }

    private static void ledNowhere() {
        RainWalk x = new RainWalk();
        led(x);
        Check.world(x, Worlds.FULL);
        led(x);
        x.day(0, 0, 0, 0);
        led(x, 0, 6, 7);
        Check.refused("a day that is refused", x, x.day(0, 8, 0, 0), -1, 1);
        led(x, 0, 6, 7);
        Check.world(x, Worlds.FULL);
        led(x);
        RainWalk bare = Check.of(Worlds.SMALL);
        bare.day(0, 0, 0, 0);
        led(bare);
    }

    // ---- promise 40

    private static void sizesBeside() {
        for (RainWalk x : new RainWalk[] {new RainWalk(), Check.of(Worlds.SMALL), Check.of(Worlds.FULL)}) {
            for (int wrong : new int[] {-1, -2, 12, 13, 100, MIN, MAX}) {
                Check.due("size(" + wrong + ")", x.size(wrong), -1);
            }
        }
    }

    private static void sizes(String when, RainWalk x, int... due) {
        for (int what = 0; what < due.length; what++) {
            Check.due("size(" + what + ") " + when, x.size(what), due[what]);
        }
    }

    private static void sizesOfNothing() {
        RainWalk x = new RainWalk();
        sizes("of a new one", x, 0, 0, 0, 0, 0, 0, -2, -2, 0, 0, 0, 0);
        x.feed(0, 0, 0, 0, 0);
        sizes("with a TAPE", x, 0, 0, 0, 0, 0, 0, -2, -2, 0, 0, 0, 20);
        x.day(0, 0, 7, 0);
        sizes("behind a day that is refused", x, 0, 0, 0, 0, 0, 0, -2, -2, 0, 0, 0, 20);
        x.world(20);
        sizes("behind a FAULT", x, 0, 0, 0, 0, 0, 0, -2, -2, 0, 0, 0, 0);
        Check.world(x, Worlds.SMALL);
        sizes("of the least WORLD", x, 5, 0, 1, 0, 1, 0, -2, -2, 0, 0, 0, 0);
        x.day(0, 0, 0, 0);
        sizes("of its DAY", x, 5, 0, 1, 0, 1, 0, 0, 0, 0, 0, 0, 0);
    }

    private static void sizesOfAll() {
        RainWalk x = Check.of(Worlds.FULL);
        sizes("of the full WORLD", x, 5, 6, 8, 12, 4, 4, -2, -2, 0, 0, 0, 0);
        x.day(3, 7, 400, 65536);
        sizes("of its DAY", x, 5, 6, 8, 12, 4, 4, 3, 7, 400, 0, 0, 0);
        for (int i = 0; i < 17; i++) {
            x.stay(i == 0 ? 43 : 33);
            x.mark();
        }
        for (int i = 0; i < 46; i++) {
            x.feed(0, 0, 0, 0, 0);
        }
        sizes("with all rooms full", x, 5, 6, 8, 12, 4, 4, 3, 7, 971, 16, 3, 900);
        x.stay(28);
        sizes("in the last minute", x, 5, 6, 8, 12, 4, 4, 3, 7, 999, 16, 3, 900);
        RainWalk hour = Check.of("world hour 60;place a;" + Worlds.WALKER);
        Check.due("size(0)", hour.size(0), 60);
    }

    // ---- promise 41

    private static void everyTrouble() {
        RainWalk x = new RainWalk();
        Check.due("trouble() of a new one", x.trouble(), 0);
        Check.refused("1", x, x.walker(0, 0), -1, 1);
        Check.refused("2", x, x.world(1), -1, 2);
        Check.refused("4", x, x.world(0), -1, 4);
        Check.refused("6", x, x.undo(), 6);
        Check.granted("0", x, Check.world(x, Worlds.FULL), 4);
        x.day(0, 2, 0, 0);
        Check.refused("5", x, x.stay(1), 5);
        x.mark();
        x.mark();
        x.mark();
        Check.refused("3", x, x.mark(), -1, 3);
        Check.granted("0", x, x.minutes(0, 0, 2), 6);
    }

    private static void troubleStays() {
        RainWalk x = Check.of(Worlds.FULL);
        x.day(0, 2, 0, 0);
        ToLongFunction<RainWalk>[] calls = troubles();
        for (int number = 1; number <= 6; number++) {
            calls[number - 1].applyAsLong(x);
            Check.due("trouble()", x.trouble(), number);
            Calls.unrefusable(x);
            Check.due("trouble() behind calls that no number is told of", x.trouble(), number);
            Check.due("trouble() once more", x.trouble(), number);
            x.walker(0, 0);
            Check.due("trouble() behind a call that is not refused", x.trouble(), 0);
            Calls.unrefusable(x);
            Check.due("trouble() behind calls that no number is told of", x.trouble(), 0);
        }
    }

    @SuppressWarnings("unchecked")
    private static ToLongFunction<RainWalk>[] troubles() {
        return new ToLongFunction[] {
            (ToLongFunction<RainWalk>) x -> x.walker(4, 0),
            (ToLongFunction<RainWalk>) x -> x.world(901),
            (ToLongFunction<RainWalk>) x -> x.mark() + x.mark() + x.mark() + x.mark(),
            (ToLongFunction<RainWalk>) x -> x.world(0),
            (ToLongFunction<RainWalk>) x -> x.stay(1) ? 1 : 0,
            (ToLongFunction<RainWalk>) x -> x.undo() ? 1 : 0,
        };
    }

    /** Behind a refused call each that is taken tells 0, and behind one that is taken each that is refused its number. */
    private static void troubleOfEachCall() {
        for (Map.Entry<String, ToLongFunction<RainWalk>> call : Calls.refusable().entrySet()) {
            String name = call.getKey();
            RainWalk x = Check.of(Worlds.FULL.replace("from 2 to 6", "from 1 to 6"));
            Check.due("day", x.day(0, 0, 0, 0), 26);
            x.stay(1);
            x.mark();
            x.walker(9, 9);
            Check.due("trouble() ahead of " + name, x.trouble(), 1);
            long got = call.getValue().applyAsLong(x);
            if (name.equals("world")) {
                Check.due("trouble() behind world(0)", x.trouble(), 4);
            } else {
                Check.due("trouble() behind " + name, x.trouble(), 0);
                boolean none = got == Calls.none(name) && !name.equals("air");
                Check.due(name + " is taken", none, false);
            }
        }
    }

    // ---- Term IV

    /** "in lowest terms, ... (0 by 1)". */
    private static void lowestTerms() {
        RainWalk x = Check.of("world hour 5;rain drops 9 down 9 wind east 9 chance 100;rain drops 7 down 1 wind east 0 chance 50;"
            + "rain drops 0 down 1 wind north 0 chance 100;rain drops 5 down 1 wind north 0 chance 0;"
            + "place a;place b;road a east 60 b;road a east 59 b;road a east 1 b;walker p plain broad 1 deep 1 high 1 from 1 to 9");
        long[][] tops = {{420, 1}, {210, 1}, {140, 1}, {105, 1}, {84, 1}, {70, 1}, {60, 1}, {105, 2}, {140, 3}};
        for (int speed = 1; speed <= 9; speed++) {
            Check.fraction("60 at " + speed, x.face(0, 0, 0, 1, speed, 0, false), x.face(0, 0, 0, 1, speed, 0, true), tops[speed - 1][0],
                tops[speed - 1][1]);
            long up = speed == 7 ? 59 : 7 * 59;
            Check.fraction("59 at " + speed, x.face(0, 1, 0, 1, speed, 0, false), x.face(0, 1, 0, 1, speed, 0, true), up,
                speed == 7 ? 1 : speed);
            for (int hour = 2; hour < 4; hour++) {
                Check.fraction("nothing", x.mean(0, 0, 0, hour, speed, false), x.mean(0, 0, 0, hour, speed, true), 0, 1);
            }
            Check.fraction("no back", x.face(0, 0, 0, 1, speed, 2, false), x.face(0, 0, 0, 1, speed, 2, true), 0, 1);
        }
        Check.fraction("nothing saved", x.saves(0, 0, 0, 2, false), x.saves(0, 0, 0, 2, true), 0, 1);
        Check.fraction("nothing there and back", x.round(0, 0, 2, false), x.round(0, 0, 2, true), 0, 1);
        Check.fraction("the least of nothing", x.least(0, 0, 0, 0, 0, false), x.least(0, 0, 0, 0, 0, true), 0, 1);
    }

    private static void constants() {
        Check.due("NONE", RainWalk.NONE, -1);
    }
}
