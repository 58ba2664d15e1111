/** Promises 28 to 36: a day, acts, undoing, marks. */
public final class DayTest {
    private static final int MAX = Integer.MAX_VALUE;
    private static final int MIN = Integer.MIN_VALUE;

    /** The draws of SEED 0 are 74, 24, 52 and so on: only in the hours 1 and 2 it rains. */
    private static final String TEXT = "world hour 10;"
        + "rain drops 2 down 3 wind east 4 chance 74;rain drops 1 down 2 wind north 1 chance 25;rain drops 3 down 1 wind west 0 chance 100;"
        + "rain drops 9 down 9 wind west 9 chance 0;"
        + "place a inn;place b tree 2;place c;"
        + "road a east 12 b awning 4;road b north 10 c;road c west 60 a awning 60;"
        + "walker p plain broad 2 deep 1 high 5 from 2 to 6;walker s shield 3 broad 2 deep 2 high 4 from 1 to 3;"
        + "walker k coat 72 broad 2 deep 1 high 5 from 1 to 9;walker n bent 2 broad 2 deep 1 high 5 from 1 to 1";

    public static void main(String[] args) {
        days();
        noDay();
        legs();
        stays();
        firstHour();
        coats();
        lateMinutes();
        undoing();
        marks();
        Check.end("DayTest");
    }

    private static void days() {
        RainWalk x = Check.of(TEXT);
        int[] chances = {74, 25, 100, 0};
        for (int seed : new int[] {0, 1, 2, 77, 873, 65535, 65536}) {
            long drawn = seed;
            int bits = 0;
            for (int hour = 0; hour < 4; hour++) {
                drawn = (75 * drawn + 74) % 65537;
                bits |= drawn % 100 < chances[hour] ? 1 << hour : 0;
            }
            Check.granted("day of seed " + seed, x, x.day(0, 0, 0, seed), bits);
        }
        Check.granted("day of seed 0", x, x.day(3, 2, 400, 0), 6);
        Check.due("size(6)", x.size(6), 3);
        Check.due("size(7)", x.size(7), 2);
        Check.due("size(8)", x.size(8), 400);
        Check.refused("day, walker", x, x.day(4, 0, 401, 0), -1, 1);
        Check.refused("day, walker", x, x.day(-1, 0, 0, 0), -1, 1);
        Check.refused("day, place", x, x.day(0, 3, 0, -1), -1, 1);
        Check.refused("day, place", x, x.day(0, -1, 0, 0), -1, 1);
        Check.refused("day, minute", x, x.day(0, 0, 401, 0), -1, 2);
        Check.refused("day, minute", x, x.day(0, 0, -1, 0), -1, 2);
        Check.refused("day, seed", x, x.day(0, 0, 0, 65537), -1, 2);
        Check.refused("day, seed", x, x.day(0, 0, 0, -1), -1, 2);
        Check.refused("day, seed", x, x.day(0, 0, MAX, MIN), -1, 2);
        Check.due("the day goes on", x.size(8), 400);
        RainWalk bare = Check.of("world hour 5;place a;walker p plain broad 1 deep 1 high 1 from 1 to 1");
        Check.granted("day without hours", bare, bare.day(0, 0, 0, 65536), 0);
    }

    private static void noDay() {
        RainWalk x = Check.of(TEXT);
        Check.refused("go", x, x.go(0, 0, 2), -1, 1);
        Check.refused("stay", x, x.stay(1), 1);
        Check.refused("stay of a wrong number", x, x.stay(0), 1);
        Check.refused("got", x, x.got(0, true), -1, 1);
        Check.refused("wetness", x, x.wetness(true), -1, 1);
        Check.refused("soaked", x, x.soaked(), -1, 1);
        Check.refused("undo", x, x.undo(), 6);
        Check.refused("mark", x, x.mark(), -1, 1);
        Check.refused("back", x, x.back(0), 1);
        Check.due("led(0) throws", Check.ledThrows(x, 0), true);
    }

    private static void legs() {
        RainWalk x = Check.of(TEXT);
        x.day(0, 0, 9, 0);
        Check.granted("a dry leg", x, x.go(0, 0, 5), 12);
        Check.due("size(7)", x.size(7), 1);
        Check.due("all dry", x.wetness(false), 0);
        Check.fraction("got nothing", x.got(4, false), x.got(4, true), 0, 1);
        Check.granted("a wet leg", x, x.go(1, 0, 3), 16);
        Check.fraction("top", x.got(0, false), x.got(0, true), 40, 3);
        Check.fraction("front", x.got(1, false), x.got(1, true), 200, 3);
        Check.fraction("back", x.got(2, false), x.got(2, true), 0, 1);
        Check.fraction("wetness", x.wetness(false), x.wetness(true), 80, 1);
        Check.granted("another", x, x.go(1, 1, 4), 19);
        Check.fraction("top", x.got(0, false), x.got(0, true), 70, 3);
        Check.granted("a third, on into the next hour", x, x.go(0, 1, 3), 23);
        Check.fraction("left", x.got(3, false), x.got(3, true), 40, 3);
        Check.refused("no such road", x, x.go(3, 0, 9), -1, 1);
        Check.refused("no such road", x, x.go(-1, 0, 2), -1, 1);
        Check.refused("no such way", x, x.go(0, 2, 2), -1, 1);
        Check.refused("no such way", x, x.go(0, -1, 2), -1, 1);
        Check.refused("no speed of his", x, x.go(0, 1, 7), -1, 2);
        Check.refused("no speed of his", x, x.go(0, 0, 1), -1, 2);
        Check.refused("not where it begins", x, x.go(0, 1, 2), -1, 5);
        Check.refused("not where it begins", x, x.go(1, 0, 2), -1, 5);
        Check.due("the minute stays", x.size(8), 23);
        Check.due("four acts", x.size(9), 3 + 1);
        Check.refused("face 5", x, x.got(5, false), -1, 1);
        Check.refused("face -1", x, x.got(-1, true), -1, 1);
        Check.granted("by the rain of the hour told last", x, x.day(0, 0, 39, 0), 6);
        Check.granted("a leg in an hour without a chance", x, x.go(0, 0, 6), 41);
        Check.granted("a leg behind the last hour", x, x.go(0, 1, 6), 43);
        Check.due("dry", x.wetness(false), 0);
    }

    private static void stays() {
        RainWalk x = Check.of(TEXT);
        x.day(0, 1, 8, 0);
        Check.due("stay under the tree", x.stay(4), true);
        Check.due("two of four minutes drip", x.got(0, false), 8);
        Check.due("size(8)", x.size(8), 12);
        Check.due("stay 60", x.stay(60), true);
        Check.due("eight minutes and ten of the next hour drip", x.got(0, false), 8 + 4 * 18);
        Check.due("size(8)", x.size(8), 72);
        Check.refused("stay 61", x, x.stay(61), 2);
        Check.refused("stay 0", x, x.stay(0), 2);
        Check.refused("stay MIN", x, x.stay(MIN), 2);
        Check.granted("the shield's day", x, x.day(1, 1, 10, 0), 6);
        Check.due("stay", x.stay(1), true);
        Check.due("a shield takes off", x.got(0, false), 2);
        Check.granted("a day at the inn", x, x.day(0, 0, 10, 0), 6);
        Check.due("stay at the inn", x.stay(20), true);
        Check.due("dry", x.wetness(false), 0);
        Check.granted("a day where nobody waits", x, x.day(0, 2, 10, 0), 6);
        Check.refused("stay", x, x.stay(1), 5);
        Check.refused("stay of a wrong number", x, x.stay(-1), 2);
    }

    private static void firstHour() {
        RainWalk x = Check.of("world hour 5;rain drops 1 down 1 wind north 0 chance 100;place a tree 3;place b;road a east 4 b;"
            + "walker p plain broad 1 deep 1 high 1 from 1 to 4");
        Check.granted("day", x, x.day(0, 0, 0, 5), 1);
        Check.due("stay", x.stay(7), true);
        x.size(99);
        x.go(9, 9, 9);
        Check.granted("five minutes of the first hour drip", x, x.got(0, false), 15);
        x.go(9, 9, 9);
        Check.granted("wetness", x, x.wetness(false), 15);
        Check.granted("day", x, x.day(0, 0, 4, 5), 1);
        Check.granted("a leg that begins in the first hour", x, x.go(0, 0, 1), 8);
        Check.due("all of it is wet", x.wetness(false), 8);
        Check.granted("a leg behind it", x, x.go(0, 1, 1), 12);
        Check.due("it is dry", x.wetness(false), 8);
    }

    private static void coats() {
        RainWalk x = Check.of(TEXT);
        x.day(2, 1, 10, 0);
        Check.granted("dry coat", x, x.soaked(), 0);
        Check.due("stay", x.stay(18), true);
        Check.fraction("as much as it holds", x.wetness(false), x.wetness(true), 0, 1);
        Check.granted("not soaked by just that", x, x.soaked(), 0);
        Check.due("got all the same", x.got(0, false), 72);
        Check.due("stay", x.stay(1), true);
        Check.due("one more", x.wetness(false), 4);
        Check.granted("soaked", x, x.soaked(), 1);
        x.day(3, 1, 10, 0);
        Check.granted("without a coat", x, x.soaked(), -2);
    }

    private static void lateMinutes() {
        RainWalk x = Check.of(TEXT);
        x.day(3, 0, 400, 0);
        for (int i = 0; i < 9; i++) {
            Check.due("stay 60", x.stay(60), true);
        }
        Check.refused("a leg behind 999", x, x.go(2, 1, 1), -1, 3);
        Check.due("stay 59", x.stay(59), true);
        Check.due("size(8)", x.size(8), 999);
        Check.refused("a minute behind 999", x, x.stay(1), 3);
        Check.due("undo", x.undo(), true);
        Check.due("stay 47", x.stay(47), true);
        Check.granted("a leg to 999", x, x.go(0, 0, 1), 999);
        Check.refused("not where it begins, ahead of no room", x, x.go(0, 0, 1), -1, 5);
        Check.refused("no room", x, x.go(0, 1, 1), -1, 3);
    }

    private static void undoing() {
        RainWalk x = Check.of(TEXT);
        x.day(0, 1, 10, 0);
        for (int i = 0; i < 17; i++) {
            Check.due("stay 1", x.stay(1), true);
            Check.due("size(9)", x.size(9), Math.min(i + 1, 16));
        }
        Check.due("got", x.got(0, false), 4 * 17);
        for (int i = 0; i < 16; i++) {
            Check.due("undo", x.undo(), true);
            Check.due("trouble()", x.trouble(), 0);
            Check.due("got", x.got(0, false), 4 * (16 - i));
            Check.due("size(8)", x.size(8), 26 - i);
        }
        Check.refused("undo the seventeenth", x, x.undo(), 6);
        Check.due("size(8)", x.size(8), 11);
        Check.granted("go", x, x.go(1, 0, 2), 16);
        Check.due("undo", x.undo(), true);
        Check.due("where he was", x.size(7), 1);
        Check.due("what he got", x.wetness(false), 4);
        x.stay(3);
        x.day(0, 1, 10, 0);
        Check.due("size(9) of a new day", x.size(9), 0);
        Check.refused("undo in a new day", x, x.undo(), 6);
    }

    private static void marks() {
        RainWalk x = Check.of(TEXT);
        x.day(0, 1, 10, 0);
        Check.granted("mark", x, x.mark(), 0);
        x.stay(2);
        Check.granted("mark", x, x.mark(), 1);
        x.go(1, 0, 5);
        Check.granted("mark", x, x.mark(), 2);
        Check.refused("a fourth mark", x, x.mark(), -1, 3);
        Check.due("size(10)", x.size(10), 3);
        Check.due("acts stay by marks", x.size(9), 2);
        long wet = x.wetness(false);
        Check.due("back(0)", x.back(0), true);
        Check.due("trouble()", x.trouble(), 0);
        Check.due("size(7)", x.size(7), 1);
        Check.due("size(8)", x.size(8), 10);
        Check.due("wetness", x.wetness(false), 0);
        Check.due("nothing to undo", x.size(9), 0);
        Check.refused("undo", x, x.undo(), 6);
        Check.due("marks stay", x.size(10), 3);
        x.stay(5);
        Check.due("back(2)", x.back(2), true);
        Check.due("size(7)", x.size(7), 2);
        Check.due("size(8)", x.size(8), 14);
        Check.due("wetness", x.wetness(false), wet);
        Check.due("back(1)", x.back(1), true);
        Check.due("got", x.got(0, false), 8);
        x.stay(1);
        Check.due("an undo leaves marks", x.undo(), true);
        Check.due("back(1) again", x.back(1), true);
        Check.due("got", x.got(0, false), 8);
        Check.refused("back(3)", x, x.back(3), 1);
        Check.refused("back(-1)", x, x.back(-1), 1);
        Check.refused("back(MAX)", x, x.back(MAX), 1);
        x.day(0, 1, 10, 0);
        Check.due("size(10) of a new day", x.size(10), 0);
        Check.refused("back(0) in a new day", x, x.back(0), 1);
        Check.granted("mark", x, x.mark(), 0);
        Check.refused("back(1) of one mark", x, x.back(1), 1);
    }
}
