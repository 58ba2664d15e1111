/** Promises 37 to 41: what is told of walkers, roads, where roads lead, sizes, trouble. */
public final class ToldTest {
    private static final String TEXT = "world hour 12;rain drops 1 down 1 wind east 1 chance 1;place a;place b;place c inn;"
        + "road a north 5 b;road b east 6 c awning 6;road c south 7 a awning 0;road c west 8 b;"
        + "walker p plain broad 2 deep 3 high 5 from 2 to 6;walker s shield 99 broad 3 deep 2 high 4 from 1 to 1;"
        + "walker k coat 0 broad 9 deep 8 high 7 from 9 to 9;walker n bent 8 broad 2 deep 1 high 9 from 3 to 4;seen n 1,2,3,4,5";

    public static void main(String[] args) {
        RainWalk x = Check.of(TEXT);
        rows(x);
        sizes(x);
        led(x);
        troubles(x);
        Check.end("ToldTest");
    }

    private static void rows(RainWalk x) {
        int[][] walkers = {{0, 0, 6, 10, 15, 2, 6}, {3, 99, 6, 12, 8, 1, 1}, {2, 0, 72, 63, 56, 9, 9}, {1, 8, 18, 2, 9, 3, 4}};
        int[][] roads = {{0, 1, 0, 5, 0}, {1, 2, 1, 6, 6}, {2, 0, 2, 7, 0}, {2, 1, 3, 8, 0}};
        for (int i = 0; i < 4; i++) {
            for (int what = 0; what < 7; what++) {
                Check.granted("walker(" + i + ", " + what + ")", x, x.walker(i, what), walkers[i][what]);
            }
            for (int what = 0; what < 5; what++) {
                Check.granted("road(" + i + ", " + what + ")", x, x.road(i, what), roads[i][what]);
            }
        }
        for (int wrong : new int[] {-1, 7, Integer.MAX_VALUE, Integer.MIN_VALUE}) {
            Check.refused("walker(0, " + wrong + ")", x, x.walker(0, wrong), -1, 1);
            Check.refused("walker(" + wrong + ", 0)", x, x.walker(wrong, 0), -1, 1);
            Check.refused("road(0, " + wrong + ")", x, x.road(0, wrong), -1, 1);
            Check.refused("road(" + wrong + ", 0)", x, x.road(wrong, 0), -1, 1);
        }
        Check.refused("walker(4, 0)", x, x.walker(4, 0), -1, 1);
        Check.refused("road(4, 0)", x, x.road(4, 0), -1, 1);
        Check.refused("road(0, 5)", x, x.road(0, 5), -1, 1);
    }

    private static void sizes(RainWalk x) {
        int[] none = {12, 1, 3, 4, 4, 1, -2, -2, 0, 0, 0, 0};
        for (int what = 0; what < none.length; what++) {
            Check.due("size(" + what + ")", x.size(what), none[what]);
        }
        x.feed(0, 0, 0, 0, 0);
        x.day(3, 2, 77, 0);
        x.stay(3);
        x.mark();
        x.mark();
        x.stay(1);
        int[] now = {12, 1, 3, 4, 4, 1, 3, 2, 81, 2, 2, 20};
        for (int what = 0; what < now.length; what++) {
            Check.due("size(" + what + ") of a day", x.size(what), now[what]);
        }
        Check.due("size(-1)", x.size(-1), -1);
        Check.due("size(12)", x.size(12), -1);
        Check.due("size(MAX)", x.size(Integer.MAX_VALUE), -1);
        Check.due("size(MIN)", x.size(Integer.MIN_VALUE), -1);
    }

    private static void led(RainWalk x) {
        int[][] roads = {{0, 2}, {0, 1, 3}, {1, 2, 3}};
        for (int place = 0; place < 3; place++) {
            x.day(0, place, 0, 0);
            for (int i = 0; i < roads[place].length; i++) {
                Check.due("led(" + i + ") at " + place, x.led(i), roads[place][i]);
            }
            Check.due("led behind the last throws", Check.ledThrows(x, roads[place].length), true);
            Check.due("led(-1) throws", Check.ledThrows(x, -1), true);
            Check.due("led(MIN) throws", Check.ledThrows(x, Integer.MIN_VALUE), true);
        }
    }

    /** Calls of which no number is told leave the trouble as it was. */
    private static void troubles(RainWalk x) {
        x.walker(9, 0);
        Check.due("trouble()", x.trouble(), 1);
        x.size(99);
        x.size(0);
        x.feed(0, 0, 0, 0, 0);
        x.fault();
        x.where();
        Check.ledThrows(x, 99);
        Check.due("trouble() still", x.trouble(), 1);
        Check.due("trouble() again", x.trouble(), 1);
        x.walker(0, 0);
        Check.due("trouble() of a call not refused", x.trouble(), 0);
        x.minutes(0, 0, 1);
        Check.due("trouble() of a number", x.trouble(), 2);
        x.back(7);
        Check.due("trouble() of back", x.trouble(), 1);
        x.undo();
        Check.due("trouble() of undo", x.trouble(), 6);
        x.mark();
        Check.due("trouble() of mark", x.trouble(), 0);
    }
}
