/** The boundaries that the promises 20 to 24 and Term III name for WAYS: start and till, which refusal, ties, hours, waiting. */
public final class EdgeWaysTest {
    private static final int MAX = Integer.MAX_VALUE;
    private static final int MIN = Integer.MIN_VALUE;
    private static final String STEADY = "walker p plain broad 1 deep 1 high 1 from 1 to 1";

    private interface Way {
        long of(RainWalk x, int walker, int from, int to, int start, int till);
    }

    public static void main(String[] args) {
        everyArgument();
        everyTill();
        whichRefusal();
        stepsBesideThose();
        justInTime();
        alreadyThere();
        asLongAsCanBe();
        hoursByTheirMinutes();
        behindTheLastHour();
        whereNobodyWaits();
        waitingInAnInn();
        waitingUnderATree();
        shieldUnderATree();
        soonestOfThoseAlike();
        leastRoadFirst();
        thereAheadOfBack();
        slowerAheadOfFaster();
        waitingLast();
        toAndFro();
        offFirst();
        offEnds();
        refusedAndAskedAgain();
        anotherWorld();
        laterSteps();
        allRoomsFull();
        greatestLower();
        Check.end("EdgeWaysTest");
    }

    private static void way(RainWalk x, int from, int to, int start, int till, long up, long down, int there, int... steps) {
        String of = "(0," + from + "," + to + "," + start + "," + till + ")";
        Check.fraction("least" + of, x.least(0, from, to, start, till, false), x.least(0, from, to, start, till, true), up, down);
        Check.granted("there" + of, x, x.there(0, from, to, start, till), there);
        Check.granted("steps" + of, x, x.steps(0, from, to, start, till), steps.length);
        for (int i = 0; i < steps.length; i++) {
            Check.granted("step" + of + " " + i, x, x.step(0, from, to, start, till, i), steps[i]);
        }
        for (int i : new int[] {-1, steps.length, steps.length + 1, MIN, MAX}) {
            Check.refused("step" + of + " " + i, x, x.step(0, from, to, start, till, i), -1, 1);
        }
    }

    private static void none(String what, RainWalk x, int trouble, int walker, int from, int to, int start, int till) {
        Way[] calls = {(y, w, a, b, s, t) -> y.least(w, a, b, s, t, false), (y, w, a, b, s, t) -> y.least(w, a, b, s, t, true),
            (y, w, a, b, s, t) -> y.there(w, a, b, s, t), (y, w, a, b, s, t) -> y.steps(w, a, b, s, t),
            (y, w, a, b, s, t) -> y.step(w, a, b, s, t, 0), (y, w, a, b, s, t) -> y.step(w, a, b, s, t, -1)};
        for (int i = 0; i < calls.length; i++) {
            Check.refused(what + ", call " + i, x, calls[i].of(x, walker, from, to, start, till), -1, trouble);
        }
    }

    /** Two walkers, three places, of which the third has no road. */
    private static RainWalk three() {
        return Check.of("world hour 5;place a inn;place b;place c;road a east 6 b;" + STEADY + ";walker q coat 1 broad 1 deep 1 high 1 "
            + "from 2 to 3");
    }

    // ---- the arguments

    private static void everyArgument() {
        RainWalk x = three();
        Check.granted("walker 0", x, x.there(0, 0, 1, 0, 9), 6);
        Check.granted("walker 1", x, x.there(1, 0, 1, 0, 9), 2);
        for (int wrong : new int[] {-1, 2, MIN, MAX}) {
            none("walker " + wrong, x, 1, wrong, 0, 1, 0, 9);
            Check.refused("off, walker " + wrong, x, x.off(wrong, 0, 1, 9), -1, 1);
        }
        for (int wrong : new int[] {-1, 3, MIN, MAX}) {
            none("from " + wrong, x, 1, 0, wrong, 1, 0, 9);
            none("to " + wrong, x, 1, 0, 0, wrong, 0, 9);
            none("both " + wrong, x, 1, 0, wrong, wrong, 0, 9);
            Check.refused("off, from " + wrong, x, x.off(0, wrong, 1, 9), -1, 1);
            Check.refused("off, to " + wrong, x, x.off(0, 0, wrong, 9), -1, 1);
        }
        Check.granted("the last place to itself", x, x.there(0, 2, 2, 9, 9), 9);
    }

    private static void everyTill() {
        RainWalk x = three();
        way(x, 0, 0, 0, 0, 0, 1, 0);
        way(x, 0, 0, 0, 400, 0, 1, 0);
        way(x, 0, 0, 400, 400, 0, 1, 400);
        way(x, 0, 1, 394, 400, 0, 1, 400, 1);
        none("till 401", x, 2, 0, 0, 0, 0, 401);
        none("till 401, start 401", x, 2, 0, 0, 0, 401, 401);
        none("till MAX", x, 2, 0, 0, 0, 0, MAX);
        none("till -1", x, 2, 0, 0, 0, 0, -1);
        none("till -1, start -1", x, 2, 0, 0, 0, -1, -1);
        none("till MIN", x, 2, 0, 0, 0, MIN, MIN);
        none("start -1", x, 2, 0, 0, 0, -1, 0);
        none("start MIN", x, 2, 0, 0, 0, MIN, 400);
        none("start behind till", x, 2, 0, 0, 0, 1, 0);
        none("start behind till", x, 2, 0, 0, 0, 400, 399);
        none("start MAX", x, 2, 0, 0, 0, MAX, 400);
        Check.granted("off, till 0", x, x.off(0, 0, 0, 0), 0);
        Check.granted("off, till 400", x, x.off(0, 0, 0, 400), 0);
        for (int wrong : new int[] {-1, 401, MIN, MAX}) {
            Check.refused("off, till " + wrong, x, x.off(0, 0, 0, wrong), -1, 2);
        }
    }

    /** None such ahead of a number, a number ahead of no WAY, and that ahead of a step that there isn't. */
    private static void whichRefusal() {
        RainWalk x = three();
        none("walker and till", x, 1, 2, 0, 2, 0, 401);
        none("from and till", x, 1, 0, 3, 2, 0, 401);
        none("to and start", x, 1, 0, 0, 3, 5, 4);
        none("till and no way", x, 2, 0, 0, 2, 0, 401);
        none("start and no way", x, 2, 0, 0, 2, 5, 4);
        none("no way", x, 6, 0, 0, 2, 0, 400);
        none("no way from there", x, 6, 0, 2, 1, 0, 400);
        Check.refused("off, walker and till", x, x.off(2, 0, 2, 401), -1, 1);
        Check.refused("off, place and till", x, x.off(0, 0, 3, -1), -1, 1);
        Check.refused("off, till and no way", x, x.off(0, 0, 2, 401), -1, 2);
        Check.refused("off, no way", x, x.off(0, 0, 2, 400), -1, 6);
        Check.refused("off, no way from there", x, x.off(0, 2, 1, 400), -1, 6);
    }

    private static void stepsBesideThose() {
        RainWalk x = three();
        Check.granted("the only step", x, x.step(0, 0, 1, 0, 6, 0), 1);
        for (int i : new int[] {-1, 1, 400, 401, MIN, MAX}) {
            Check.refused("step " + i, x, x.step(0, 0, 1, 0, 6, i), -1, 1);
        }
        Check.refused("step 0 of none", x, x.step(0, 1, 1, 0, 6, 0), -1, 1);
    }

    // ---- minutes

    private static void justInTime() {
        RainWalk x = three();
        way(x, 0, 1, 0, 6, 0, 1, 6, 1);
        none("a minute short", x, 6, 0, 0, 1, 0, 5);
        none("a minute late", x, 6, 0, 0, 1, 1, 6);
        none("no time at all", x, 6, 0, 0, 1, 0, 0);
        none("no time at all", x, 6, 0, 0, 1, 400, 400);
        none("just too late", x, 6, 0, 0, 1, 395, 400);
        Check.granted("off just in time", x, x.off(0, 0, 1, 6), 0);
        Check.refused("off a minute short", x, x.off(0, 0, 1, 5), -1, 6);
        RainWalk y = Check.of("world hour 5;place a;place b;road a east 60 b awning 60;" + STEADY);
        way(y, 0, 1, 0, 60, 0, 1, 60, 1);
        none("59 of 60 minutes", y, 6, 0, 0, 1, 0, 59);
    }

    private static void alreadyThere() {
        RainWalk x = Check.of("world hour 5;rain drops 9 down 9 wind west 9 chance 100;place a tree 9;place b;road a east 1 b;" + STEADY);
        way(x, 0, 0, 0, 400, 0, 1, 0);
        way(x, 1, 1, 3, 3, 0, 1, 3);
        Check.granted("off, there", x, x.off(0, 0, 0, 400), 0);
    }

    /** Six hours of sixty minutes are waited for, and as many legs gone as there are places. */
    private static void asLongAsCanBe() {
        StringBuilder text = new StringBuilder("world hour 60");
        for (int i = 0; i < 6; i++) {
            text.append(";rain drops 1 down 1 wind east 1 chance 1");
        }
        for (char place = 'a'; place <= 'h'; place++) {
            text.append(";place ").append(place).append(place == 'a' ? " inn" : "");
        }
        for (char place = 'a'; place < 'h'; place++) {
            text.append(";road ").append(place).append(" east 1 ").append((char) (place + 1));
        }
        RainWalk x = Check.of(text + ";" + STEADY);
        Check.granted("steps", x, x.steps(0, 0, 7, 0, 400), 367);
        Check.granted("there", x, x.there(0, 0, 7, 0, 400), 367);
        Check.granted("there by just then", x, x.there(0, 0, 7, 0, 367), 367);
        Check.fraction("least", x.least(0, 0, 7, 0, 367, false), x.least(0, 0, 7, 0, 367, true), 0, 1);
        Check.granted("step 359", x, x.step(0, 0, 7, 0, 400, 359), -2);
        for (int i = 0; i < 7; i++) {
            Check.granted("step " + (360 + i), x, x.step(0, 0, 7, 0, 400, 360 + i), 100 * i + 1);
        }
        Check.refused("step 367", x, x.step(0, 0, 7, 0, 400, 367), -1, 1);
        Check.fraction("a minute less", x.least(0, 0, 7, 0, 366, false), x.least(0, 0, 7, 0, 366, true), 1, 100);
        Check.granted("and there", x, x.there(0, 0, 7, 0, 366), 366);
        Check.granted("off", x, x.off(0, 0, 7, 400), 0);
        Check.granted("off from where nobody waits", x, x.off(0, 7, 0, 400), 360);
        Check.granted("off from there by 367", x, x.off(0, 7, 0, 367), 360);
        Check.granted("off from there by 366", x, x.off(0, 7, 0, 366), 359);
    }

    // ---- hours

    /** A LEG is all in the HOUR in which it begins: the last minute of one hour, the first of the next. */
    private static void hoursByTheirMinutes() {
        for (int minutes : new int[] {5, 6, 59, 60}) {
            RainWalk x = Check.of("world hour " + minutes + ";rain drops 1 down 1 wind north 0 chance 0;"
                + "rain drops 1 down 1 wind north 0 chance 100;rain drops 1 down 1 wind north 0 chance 50;"
                + "place a;place b;road a east 7 b;" + STEADY);
            way(x, 0, 1, 0, 400, 0, 1, 7, 1);
            way(x, 0, 1, minutes - 1, 400, 0, 1, minutes + 6, 1);
            way(x, 0, 1, minutes, 400, 14, 1, minutes + 7, 1);
            way(x, 0, 1, 2 * minutes - 1, 400, 14, 1, 2 * minutes + 6, 1);
            way(x, 0, 1, 2 * minutes, 400, 7, 1, 2 * minutes + 7, 1);
            way(x, 0, 1, 3 * minutes - 1, 400, 7, 1, 3 * minutes + 6, 1);
            way(x, 0, 1, 3 * minutes, 400, 0, 1, 3 * minutes + 7, 1);
        }
    }

    private static void behindTheLastHour() {
        RainWalk none = Check.of("world hour 5;place a tree 9;place b;road a east 7 b;" + STEADY);
        way(none, 0, 1, 0, 7, 0, 1, 7, 1);
        RainWalk six = Check.of("world hour 60" + ";rain drops 9 down 9 wind north 9 chance 100".repeat(6) + ";place a tree 9;place b;"
            + "road a east 7 b;" + STEADY);
        way(six, 0, 1, 360, 400, 0, 1, 367, 1);
        way(six, 0, 1, 393, 400, 0, 1, 400, 1);
        way(six, 0, 1, 359, 400, 9, 1, 367, -2, 1);
        way(six, 0, 1, 359, 366, 7 * 9 * (9 + 1 + 9), 1, 366, 1);
    }

    // ---- waiting

    private static String hours(String places) {
        return "world hour 5;rain drops 1 down 1 wind north 0 chance 50;" + places + ";place z;road a east 2 z;";
    }

    private static void whereNobodyWaits() {
        RainWalk x = Check.of(hours("place a") + STEADY);
        way(x, 0, 1, 0, 400, 2, 1, 2, 1);
        way(x, 0, 1, 4, 400, 2, 1, 6, 1);
        way(x, 0, 1, 5, 400, 0, 1, 7, 1);
        Check.granted("off", x, x.off(0, 0, 1, 400), 5);
        Check.granted("off by 7", x, x.off(0, 0, 1, 7), 5);
        Check.granted("off by 6", x, x.off(0, 0, 1, 6), 0);
    }

    private static void waitingInAnInn() {
        RainWalk x = Check.of(hours("place a inn") + STEADY);
        way(x, 0, 1, 0, 400, 0, 1, 7, -2, -2, -2, -2, -2, 1);
        way(x, 0, 1, 0, 7, 0, 1, 7, -2, -2, -2, -2, -2, 1);
        way(x, 0, 1, 0, 6, 2, 1, 2, 1);
        way(x, 0, 1, 4, 7, 0, 1, 7, -2, 1);
        way(x, 0, 1, 5, 7, 0, 1, 7, 1);
        Check.granted("off", x, x.off(0, 0, 1, 400), 0);
    }

    /** A tree of 0 is as good as an inn; one that costs as much as the leg is left at once. */
    private static void waitingUnderATree() {
        RainWalk none = Check.of(hours("place a tree 0") + STEADY);
        way(none, 0, 1, 3, 400, 0, 1, 7, -2, -2, 1);
        RainWalk one = Check.of(hours("place a tree 1") + STEADY);
        // a minute costs 1/2, the leg 2: four minutes cost as much, and he is there later
        way(one, 0, 1, 1, 400, 2, 1, 3, 1);
        way(one, 0, 1, 2, 400, 3, 2, 7, -2, -2, -2, 1);
        way(one, 0, 1, 0, 400, 2, 1, 2, 1);
        RainWalk nine = Check.of(hours("place a tree 9") + STEADY);
        way(nine, 0, 1, 4, 400, 2, 1, 6, 1);
        RainWalk four = Check.of(hours("place a tree 4") + STEADY);
        way(four, 0, 1, 4, 400, 2, 1, 6, 1);
        RainWalk three = Check.of(hours("place a tree 3") + STEADY);
        way(three, 0, 1, 4, 400, 3, 2, 7, -2, 1);
    }

    private static void shieldUnderATree() {
        for (int shield = 5; shield <= 8; shield++) {
            RainWalk x = Check.of(hours("place a tree 1") + "walker s shield " + shield + " broad 1 deep 7 high 9 from 1 to 1");
            // the leg: top 7, front 9; the shield over the head takes min(shield, 7), forward min(shield, 9) off
            long leg = 7 + 9 - Math.min(shield, 9);
            long drip = Math.max(0, 7 - shield);
            if (drip < 2 * leg) {
                boolean whole = drip % 2 == 0;
                way(x, 0, 1, 4, 400, whole ? drip / 2 : drip, whole ? 1 : 2, 7, -2, 1);
            }
            boolean none = drip == 0;
            Check.due("waits all along, if it costs nothing", x.steps(0, 0, 1, 0, 400), none || 5 * drip < 2 * leg ? 6 : 1);
        }
    }

    // ---- those alike

    private static void soonestOfThoseAlike() {
        RainWalk x = Check.of("world hour 5;place a;place b;road a east 9 b;road a east 3 b;road a east 6 b;"
            + "walker p plain broad 1 deep 1 high 1 from 1 to 3");
        way(x, 0, 1, 0, 9, 0, 1, 1, 103);
        RainWalk y = Check.of("world hour 60;rain drops 1 down 1 wind east 1 chance 50;place a;place b;road a east 6 b;"
            + "walker p plain broad 1 deep 1 high 1 from 1 to 6");
        // just as wet at each speed: there soonest at the fastest
        way(y, 0, 1, 0, 9, 3, 1, 1, 6);
        way(y, 0, 1, 0, 1, 3, 1, 1, 6);
    }

    private static void leastRoadFirst() {
        String places = "world hour 5;place a inn;place b;place c;";
        RainWalk x = Check.of(places + "road a east 5 b;road a east 4 b;road a south 4 b;road b east 4 a;" + STEADY);
        way(x, 0, 1, 0, 9, 0, 1, 4, 101);
        way(x, 1, 0, 0, 9, 0, 1, 4, 111);
        RainWalk y = Check.of(places + "road c east 1 b;road a east 1 c;road a west 2 b;" + STEADY);
        // by c in two legs, or at once: the least road at the first step
        way(y, 0, 1, 0, 9, 0, 1, 2, 101, 1);
        RainWalk z = Check.of(places + "road a east 2 b;road c east 1 b;road a east 1 c;" + STEADY);
        way(z, 0, 1, 0, 9, 0, 1, 2, 1);
        // the eleventh and the twelfth road
        RainWalk last = Check.of(places + "road a east 9 c;".repeat(10) + "road a east 3 b;road a east 3 b;" + STEADY);
        way(last, 0, 1, 0, 9, 0, 1, 3, 1001);
        RainWalk end = Check.of(places + "road a east 9 c;".repeat(10) + "road a east 4 b;road b east 3 a;" + STEADY);
        way(end, 0, 1, 0, 9, 0, 1, 3, 1111);
    }

    /** Of one road there and back begin at unlike places; so of two roads the one that is gone back on comes first by its number. */
    private static void thereAheadOfBack() {
        RainWalk x = Check.of("world hour 5;place a;place b;road b east 4 a;road a east 4 b;" + STEADY);
        way(x, 0, 1, 0, 9, 0, 1, 4, 11);
        way(x, 1, 0, 0, 9, 0, 1, 4, 1);
    }

    private static void slowerAheadOfFaster() {
        RainWalk x = Check.of("world hour 5;place a;place b;road a east 10 b;road a east 60 b;"
            + "walker p plain broad 1 deep 1 high 1 from 1 to 9");
        // 10 long: two minutes at 5 up to 9
        way(x, 0, 1, 0, 9, 0, 1, 2, 5);
        RainWalk y = Check.of("world hour 5;place a;place b;road a east 60 b;walker p plain broad 1 deep 1 high 1 from 1 to 9");
        way(y, 0, 1, 0, 400, 0, 1, 7, 9);
        RainWalk wet = Check.of("world hour 5;rain drops 1 down 1 wind north 0 chance 100;place a;place b;road a east 10 b;"
            + "walker p plain broad 1 deep 1 high 1 from 1 to 9");
        // just as soon, but less wet at 9: 10 by 9 and 10
        way(wet, 0, 1, 0, 9, 100, 9, 2, 9);
        RainWalk with = Check.of("world hour 5;rain drops 1 down 1 wind east 6 chance 100;place a;place b;road a east 10 b;"
            + "walker p plain broad 1 deep 2 high 2 from 5 to 9");
        // 5: 8, 6: 10/3, 7: 40/7
        way(with, 0, 1, 0, 9, 10, 3, 2, 6);
    }

    /** The leg first, then waiting where he comes to, where both bring as little and as soon. */
    private static void waitingLast() {
        RainWalk x = Check.of("world hour 5;rain drops 1 down 1 wind north 0 chance 100;place a inn;place b inn;place c;"
            + "road a east 2 b awning 2;road b east 1 c;" + STEADY);
        way(x, 0, 2, 0, 400, 0, 1, 6, 1, -2, -2, -2, 101);
        way(x, 0, 2, 0, 6, 0, 1, 6, 1, -2, -2, -2, 101);
        way(x, 0, 2, 2, 6, 0, 1, 6, 1, -2, 101);
        way(x, 0, 2, 3, 6, 0, 1, 6, 1, 101);
        way(x, 0, 2, 4, 7, 0, 1, 7, 1, 101);
        RainWalk y = Check.of("world hour 5;rain drops 1 down 1 wind north 0 chance 100;place a inn;place b;place c inn;"
            + "road a east 1 c awning 1;road a east 1 b;" + STEADY);
        // to c and back under the awning ahead of waiting, as often as there is time for it
        way(y, 0, 1, 0, 9, 0, 1, 6, 1, 11, 1, 11, -2, 101);
        way(y, 0, 1, 1, 9, 0, 1, 6, 1, 11, 1, 11, 101);
    }

    /** Where nobody waits the time is passed under an awning, to and fro. */
    private static void toAndFro() {
        RainWalk x = Check.of("world hour 60" + ";rain drops 1 down 1 wind north 0 chance 100".repeat(6) + ";place a;place b;place c;"
            + "road a east 1 b awning 1;road a east 1 c;" + STEADY);
        Check.granted("steps", x, x.steps(0, 0, 2, 0, 400), 361);
        Check.granted("there", x, x.there(0, 0, 2, 0, 400), 361);
        for (int i = 0; i < 5; i++) {
            Check.granted("step " + i, x, x.step(0, 0, 2, 0, 400, i), i % 2 == 0 ? 1 : 11);
        }
        Check.granted("step 359", x, x.step(0, 0, 2, 0, 400, 359), 11);
        Check.granted("step 360", x, x.step(0, 0, 2, 0, 400, 360), 101);
        Check.granted("an odd minute: a step more", x, x.there(0, 0, 2, 1, 400), 362);
        Check.granted("an odd minute: its last step but one", x, x.step(0, 0, 2, 1, 400, 359), 11);
        Check.granted("an odd minute: its last step", x, x.step(0, 0, 2, 1, 400, 360), 101);
        Check.granted("steps by 361 from 1", x, x.steps(0, 0, 2, 1, 361), 1);
    }

    // ---- off

    private static void offFirst() {
        RainWalk x = Check.of("world hour 5;rain drops 1 down 1 wind north 0 chance 50;rain drops 1 down 1 wind north 0 chance 49;"
            + "rain drops 1 down 1 wind north 0 chance 49;rain drops 1 down 1 wind north 0 chance 50;place a;place b;road a east 1 b;"
            + STEADY);
        Check.granted("the first of the least", x, x.off(0, 0, 1, 20), 5);
        Check.granted("the first of the least by 6", x, x.off(0, 0, 1, 6), 5);
        Check.granted("the least comes too late", x, x.off(0, 0, 1, 5), 0);
        Check.granted("behind the last hour it is dry", x, x.off(0, 0, 1, 21), 20);
        Check.granted("behind the last hour, by 400", x, x.off(0, 0, 1, 400), 20);
    }

    private static void offEnds() {
        RainWalk x = Check.of("world hour 5;rain drops 1 down 1 wind north 0 chance 100;place a;place b;road a east 60 b;" + STEADY);
        Check.granted("off, by 60", x, x.off(0, 0, 1, 60), 0);
        Check.refused("off, by 59", x, x.off(0, 0, 1, 59), -1, 6);
        Check.granted("off, by 64", x, x.off(0, 0, 1, 64), 0);
        Check.granted("off, by 65", x, x.off(0, 0, 1, 65), 5);
        Check.granted("off, till itself", x, x.off(0, 1, 1, 0), 0);
    }

    /** A refused question leaves what is answered behind it as it was. */
    private static void refusedAndAskedAgain() {
        RainWalk x = three();
        for (int i = 0; i < 3; i++) {
            way(x, 0, 1, 0, 9, 0, 1, 6, 1);
            none("no way", x, 6, 0, 0, 2, 0, 9);
            none("till", x, 2, 0, 0, 1, 0, 401);
            none("place", x, 1, 0, 0, 3, 0, 9);
            Check.granted("another walker", x, x.there(1, 0, 1, 3, 9), 5);
            Check.granted("another till", x, x.there(0, 0, 1, 3, 10), 9);
            Check.granted("the other way", x, x.step(0, 1, 0, 3, 9, 0), 11);
        }
    }

    private static void anotherWorld() {
        String text = "world hour 5;place a inn;place b;road a east 6 b;" + STEADY;
        RainWalk x = Check.of(text);
        way(x, 0, 1, 0, 9, 0, 1, 6, 1);
        Check.granted("a WORLD with another road", x, Check.world(x, text.replace("east 6", "east 7")), 1);
        way(x, 0, 1, 0, 9, 0, 1, 7, 1);
        Check.granted("a WORLD without one", x, Check.world(x, "world hour 5;place a inn;place b;" + STEADY), 1);
        none("no way", x, 6, 0, 0, 1, 0, 9);
        Check.granted("a WORLD with a shorter road, gone back", x, Check.world(x, "world hour 5;place a;place b;road b east 1 a;" + STEADY), 1);
        way(x, 0, 1, 0, 9, 0, 1, 1, 11);
    }

    /** A leg by a later road, back, at a higher speed; then waiting up to the end of the hour. */
    private static void laterSteps() {
        RainWalk x = Check.of("world hour 10;rain drops 1 down 1 wind west 3 chance 100;place a;place b inn;place c;road a east 60 c;"
            + "road c east 60 b;road b east 7 a;road c west 4 b;walker p plain broad 1 deep 1 high 1 from 1 to 3");
        // 7 long with the wind at 3: 3 minutes, 7/3 wet; then 7 minutes in the inn, then 4 long in the dry
        way(x, 0, 2, 0, 99, 7, 3, 12, 213, -2, -2, -2, -2, -2, -2, -2, 312);
        way(x, 0, 2, 5, 99, 7, 3, 12, 213, -2, -2, 312);
        way(x, 0, 2, 9, 99, 7, 3, 14, 213, 312);
    }

    /** Eight places, twelve roads, nine speeds each of which takes other minutes. */
    private static void allRoomsFull() {
        StringBuilder text = new StringBuilder("world hour 60" + ";rain drops 1 down 1 wind north 0 chance 100".repeat(6));
        for (char place = 'a'; place <= 'h'; place++) {
            text.append(";place ").append(place).append(" inn");
        }
        String roads = ";road a east 60 g".repeat(11) + ";road g east 60 h";
        RainWalk x = Check.of(text + roads + ";walker p plain broad 1 deep 1 high 1 from 1 to 9");
        Check.granted("by 374", x, x.there(0, 0, 7, 0, 374), 374);
        Check.granted("steps by 374", x, x.steps(0, 0, 7, 0, 374), 362);
        Check.granted("the last", x, x.step(0, 0, 7, 0, 374, 361), 1109);
        Check.granted("the last but one", x, x.step(0, 0, 7, 0, 374, 360), 9);
        Check.fraction("by 374", x.least(0, 0, 7, 0, 374, false), x.least(0, 0, 7, 0, 374, true), 0, 1);
        // the leg is wet at 9: 60 by 9 and 60
        Check.fraction("by 373", x.least(0, 0, 7, 0, 373, false), x.least(0, 0, 7, 0, 373, true), 200, 3);
        Check.fraction("by 14", x.least(0, 0, 7, 0, 14, false), x.least(0, 0, 7, 0, 14, true), 400, 3);
        none("by 13", x, 6, 0, 0, 7, 0, 13);
        Check.granted("from the last place but one", x, x.there(0, 6, 7, 0, 374), 367);
        Check.granted("waiting there", x, x.steps(0, 6, 7, 0, 374), 361);
        Check.granted("off, home", x, x.off(0, 7, 0, 400), 0);
        Check.granted("home by the last minute", x, x.there(0, 7, 0, 386, 400), 400);
        none("home a minute late", x, 6, 0, 7, 0, 387, 400);
    }

    /** Just with the rain at 5, 7, 8, 9, an hour each, a chance of 1: a fifth, a seventh, an eighth, a ninth of a hundredth. */
    private static void greatestLower() {
        RainWalk x = Check.of("world hour 5;rain drops 1 down 1 wind east 5 chance 1;rain drops 1 down 1 wind east 7 chance 1;"
            + "rain drops 1 down 1 wind east 8 chance 1;rain drops 1 down 1 wind east 9 chance 1;place a;place b;place c;place d;place e;"
            + "road a east 25 b awning 24;road b east 35 c awning 34;road c east 40 d awning 39;road d east 45 e awning 44;"
            + "walker p plain broad 1 deep 1 high 9 from 1 to 9");
        way(x, 0, 4, 0, 20, 1459, 252000, 20, 5, 107, 208, 309);
        way(x, 0, 4, 0, 400, 1459, 252000, 20, 5, 107, 208, 309);
        way(x, 0, 3, 0, 15, 131, 28000, 15, 5, 107, 208);
    }
}
