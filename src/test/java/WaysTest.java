/** Promises 20 to 24: the least wet way by some minute. */
public final class WaysTest {
    private static final int MAX = Integer.MAX_VALUE;
    private static final int MIN = Integer.MIN_VALUE;

    private static final String WALKER = "walker p plain broad 1 deep 1 high 1 from 1 to 3";

    public static void main(String[] args) {
        story();
        ties();
        trees();
        longDay();
        fullWorld();
        lateAndSoon();
        refusals();
        anotherWorld();
        Check.end("WaysTest");
    }

    private static void way(RainWalk x, int from, int to, int start, int till, long up, long down, int there, int... steps) {
        String of = "(0," + from + "," + to + "," + start + "," + till + ")";
        Check.fraction("least" + of, x.least(0, from, to, start, till, false), x.least(0, from, to, start, till, true), up, down);
        Check.granted("there" + of, x, x.there(0, from, to, start, till), there);
        Check.granted("steps" + of, x, x.steps(0, from, to, start, till), steps.length);
        for (int i = 0; i < steps.length; i++) {
            Check.granted("step" + of + " " + i, x, x.step(0, from, to, start, till, i), steps[i]);
        }
        Check.refused("step" + of + " behind the last", x, x.step(0, from, to, start, till, steps.length), -1, 1);
        Check.refused("step" + of + " -1", x, x.step(0, from, to, start, till, -1), -1, 1);
    }

    private static void story() {
        RainWalk x = Check.of("world hour 5;rain drops 1 down 1 wind north 0 chance 50;place a;place b inn;place c;"
            + "road a east 6 b;road b east 6 c;" + WALKER);
        way(x, 0, 1, 0, 9, 4, 1, 2, 3);
        way(x, 0, 2, 0, 4, 8, 1, 4, 3, 103);
        way(x, 0, 2, 0, 6, 8, 1, 4, 3, 103);
        way(x, 0, 2, 0, 7, 4, 1, 7, 3, -2, -2, -2, 103);
        way(x, 1, 2, 0, 8, 0, 1, 7, -2, -2, -2, -2, -2, 103);
        way(x, 2, 0, 5, 9, 0, 1, 9, 113, 13);
        way(x, 2, 2, 3, 3, 0, 1, 3);
        way(x, 0, 0, 0, 0, 0, 1, 0);
        Check.granted("off, by 0", x, x.off(0, 1, 1, 0), 0);
        way(x, 2, 2, 0, 400, 0, 1, 0);
        Check.granted("off, by 9", x, x.off(0, 0, 2, 9), 5);
        Check.granted("off, by 8", x, x.off(0, 0, 2, 8), 0);
        Check.granted("off, there", x, x.off(0, 1, 1, 8), 0);
    }

    private static void ties() {
        String all = "world hour 5;place a inn;place b;place c inn;road a east 2 b;road b north 2 a;road a east 2 b;"
            + "road a west 1 c;road c east 1 b;" + WALKER;
        RainWalk x = Check.of(all);
        way(x, 0, 1, 0, 9, 0, 1, 1, 2);
        way(x, 0, 1, 4, 5, 0, 1, 5, 2);
        way(x, 1, 0, 0, 9, 0, 1, 1, 12);
        RainWalk y = Check.of("world hour 5;place a;place b;place c;place d;road c south 3 b;road a south 3 c;road a west 3 d;"
            + "road b south 3 d;walker q plain broad 1 deep 1 high 1 from 2 to 4");
        way(y, 0, 1, 0, 9, 0, 1, 2, 103, 3);
        RainWalk z = Check.of("world hour 60;rain drops 1 down 2 wind north 0 chance 100;place a inn;place b;road b south 8 a;"
            + "road a south 4 b awning 4;road a south 4 b awning 4;" + WALKER);
        way(z, 0, 1, 0, 99, 0, 1, 2, 102);
    }

    private static void trees() {
        RainWalk x = Check.of("world hour 5;rain drops 9 down 9 wind north 9 chance 10;rain drops 1 down 1 wind north 0 chance 20;"
            + "place a tree 3;place b;road a east 2 b;walker p plain broad 2 deep 3 high 1 from 1 to 1;"
            + "walker s shield 4 broad 2 deep 3 high 1 from 1 to 1;walker t shield 9 broad 2 deep 3 high 1 from 1 to 1");
        way(x, 0, 1, 0, 5, 747, 5, 2, 1);
        way(x, 0, 1, 4, 12, 5, 1, 7, -2, 1);
        way(x, 0, 1, 5, 20, 16, 5, 7, 1);
        Check.fraction("least of the shield under a tree", x.least(1, 0, 1, 4, 12, false), x.least(1, 0, 1, 4, 12, true), 11, 5);
        Check.fraction("least of the great shield under a tree", x.least(2, 0, 1, 4, 12, false), x.least(2, 0, 1, 4, 12, true), 0, 1);
    }

    private static void longDay() {
        RainWalk x = Check.of("world hour 60;rain drops 1 down 1 wind north 0 chance 100;rain drops 1 down 1 wind north 0 chance 100;"
            + "rain drops 1 down 1 wind north 0 chance 100;rain drops 1 down 1 wind north 0 chance 100;"
            + "rain drops 1 down 1 wind north 0 chance 100;rain drops 1 down 1 wind north 0 chance 100;"
            + "place a inn;place b;road a east 40 b;walker p plain broad 1 deep 1 high 1 from 1 to 1");
        Check.granted("there in the dry", x, x.there(0, 0, 1, 0, 400), 400);
        Check.granted("steps", x, x.steps(0, 0, 1, 0, 400), 361);
        Check.granted("step 359", x, x.step(0, 0, 1, 0, 400, 359), -2);
        Check.granted("step 360", x, x.step(0, 0, 1, 0, 400, 360), 1);
        Check.granted("off", x, x.off(0, 0, 1, 400), 0);
        Check.granted("off from where nobody waits", x, x.off(0, 1, 0, 400), 360);
        Check.granted("waiting all along", x, x.steps(0, 0, 0, 0, 400), 0);
        Check.granted("steps by 399", x, x.steps(0, 0, 1, 0, 399), 1);
        Check.due("least by 399", x.least(0, 0, 1, 0, 399, false), 80);
    }

    /** As many places, roads, speeds as there is room for, each speed with its own minutes. */
    private static void fullWorld() {
        StringBuilder text = new StringBuilder("world hour 60");
        for (int i = 0; i < 6; i++) {
            text.append(";rain drops 1 down 1 wind north 0 chance 100");
        }
        for (char place = 'a'; place <= 'h'; place++) {
            text.append(";place ").append(place).append(" inn");
        }
        for (int i = 0; i < 11; i++) {
            text.append(";road a east 60 b");
        }
        text.append(";road b east 60 h;walker p plain broad 1 deep 1 high 1 from 1 to 9");
        RainWalk x = Check.of(text.toString());
        Check.granted("there in the dry", x, x.there(0, 0, 7, 0, 400), 374);
        Check.granted("steps", x, x.steps(0, 0, 7, 0, 400), 362);
        Check.granted("the last wait", x, x.step(0, 0, 7, 0, 400, 359), -2);
        Check.granted("the first leg", x, x.step(0, 0, 7, 0, 400, 360), 9);
        Check.granted("the last leg", x, x.step(0, 0, 7, 0, 400, 361), 1109);
        Check.fraction("least", x.least(0, 0, 7, 0, 400, false), x.least(0, 0, 7, 0, 400, true), 0, 1);
        Check.fraction("least by 373", x.least(0, 0, 7, 0, 373, false), x.least(0, 0, 7, 0, 373, true), 200, 3);
        Check.granted("there by 373", x, x.there(0, 0, 7, 0, 373), 367);
        Check.granted("home from h", x, x.there(0, 7, 0, 393 - 8, 400), 399);
        Check.refused("home too late", x, x.there(0, 7, 0, 387, 400), -1, 6);
        Check.granted("home in time", x, x.there(0, 7, 0, 386, 400), 400);
        Check.refused("to where no road leads", x, x.there(0, 0, 3, 0, 400), -1, 6);
    }

    /** Ways of one walker to one place are asked for from late to soon and from soon to late: the answers are the same. */
    private static void lateAndSoon() {
        String text = "world hour 7;rain drops 3 down 2 wind east 2 chance 30;rain drops 1 down 1 wind west 3 chance 90;"
            + "rain drops 2 down 5 wind south 1 chance 5;place a inn;place b tree 1;place c;place d inn;road a east 9 b;"
            + "road b south 5 c awning 2;road c west 7 d;road d north 11 a;" + WALKER;
        RainWalk x = Check.of(text);
        long[] late = new long[31];
        for (int start = 30; start >= 0; start--) {
            late[start] = x.least(0, 0, 2, start, 30, false);
        }
        RainWalk y = Check.of(text);
        for (int start = 0; start <= 30; start++) {
            Check.due("least from soon, " + start, y.least(0, 0, 2, start, 30, false), late[start]);
            y.least(0, 1, 3, start, 29, true);
        }
    }

    private static void refusals() {
        RainWalk x = Check.of("world hour 5;place a;place b;place c;road a east 6 b;" + WALKER);
        Check.refused("no such walker", x, x.least(1, 0, 1, 0, 9, false), -1, 1);
        Check.refused("no such walker, till", x, x.least(-1, 0, 1, 0, 401, false), -1, 1);
        Check.refused("no place from", x, x.there(0, 3, 1, 0, 9), -1, 1);
        Check.refused("no place to", x, x.steps(0, 0, -1, 5, 4), -1, 1);
        Check.refused("start behind till", x, x.step(0, 0, 1, 5, 4, 0), -1, 2);
        Check.refused("start below 0", x, x.least(0, 0, 1, -1, 4, true), -1, 2);
        Check.refused("till above 400", x, x.there(0, 0, 1, 0, 401), -1, 2);
        Check.refused("till below 0", x, x.there(0, 0, 1, MIN, -1), -1, 2);
        Check.refused("till MAX", x, x.there(0, 0, 1, MAX, MAX), -1, 2);
        Check.refused("no way in time", x, x.least(0, 0, 1, 8, 9, false), -1, 6);
        Check.refused("no way at all", x, x.step(0, 0, 2, 0, 400, -1), -1, 6);
        Check.granted("a way in time", x, x.there(0, 0, 1, 7, 9), 9);
        Check.refused("no such step", x, x.step(0, 0, 1, 7, 9, MAX), -1, 1);
        Check.refused("no such step", x, x.step(0, 0, 1, 7, 9, MIN), -1, 1);
        Check.refused("off, walker", x, x.off(1, 0, 1, 9), -1, 1);
        Check.refused("off, from", x, x.off(0, 3, 1, 9), -1, 1);
        Check.refused("off, to", x, x.off(0, 0, 3, 401), -1, 1);
        Check.refused("off, till", x, x.off(0, 0, 1, 401), -1, 2);
        Check.refused("off, till", x, x.off(0, 0, 1, -1), -1, 2);
        Check.refused("off, no way", x, x.off(0, 0, 2, 400), -1, 6);
        Check.refused("off, no way in time", x, x.off(0, 0, 1, 1), -1, 6);
        Check.granted("off, just in time", x, x.off(0, 0, 1, 2), 0);
    }

    /** What was reckoned in one world is not told in the next. */
    private static void anotherWorld() {
        RainWalk x = Check.of("world hour 5;place a;place b;road a east 6 b;" + WALKER);
        Check.granted("there, six long", x, x.there(0, 0, 1, 0, 9), 2);
        Check.granted("world anew", x, Check.world(x, "world hour 5;place a;place b;road a east 9 b;" + WALKER), 1);
        Check.granted("there, nine long", x, x.there(0, 0, 1, 0, 9), 3);
    }
}
