/** Promises 1 to 5: a new object, feed, world, fault, where; the text of a world and its faults. */
public final class TextTest {
    private static final String W = "world hour 5;";
    private static final String WALKER = "walker z plain broad 1 deep 1 high 1 from 1 to 1";
    private static final String SMALL = W + "place a;" + WALKER;

    public static void main(String[] args) {
        newObject();
        tape();
        worlds();
        refusedWorlds();
        worldsAgain();
        tokens();
        form();
        names();
        bounds();
        many();
        lacks();
        leastNumber();
        Check.end("TextTest");
    }

    private static void newObject() {
        RainWalk x = new RainWalk();
        Check.due("fault()", x.fault(), 0);
        Check.due("where()", x.where(), RainWalk.NONE);
        Check.due("trouble()", x.trouble(), 0);
        for (int what = 0; what < 12; what++) {
            Check.due("size(" + what + ")", x.size(what), what == 6 || what == 7 ? -2 : 0);
        }
        Check.refused("wet()", x, x.wet(0, 0, 0, 0, 1, false), -1, 1);
        Check.refused("off()", x, x.off(0, 0, 0, 0), -1, 1);
        Check.refused("fits()", x, x.fits(0), -1, 1);
        Check.refused("lies()", x, x.lies(), -1, 1);
        Check.refused("day()", x, x.day(0, 0, 0, 0), -1, 1);
    }

    private static void tape() {
        RainWalk x = new RainWalk();
        for (int i = 1; i <= 45; i++) {
            Check.due("feed " + i, x.feed(-1, 0, 1, 2, Integer.MIN_VALUE), 20 * i);
        }
        Check.due("feed 46", x.feed(0, 0, 0, 0, 0), RainWalk.NONE);
        Check.due("trouble() behind feed 46", x.trouble(), 0);
        Check.due("size(11)", x.size(11), 900);
        Check.refused("world(901)", x, x.world(901), -1, 2);
        Check.due("size(11) behind world(901)", x.size(11), 900);
        Check.refused("world(-1)", x, x.world(-1), -1, 2);
        Check.refused("world(MIN)", x, x.world(Integer.MIN_VALUE), -1, 2);
        Check.refused("world(900)", x, x.world(900), -1, 4);
        Check.due("fault() of bytes 255", x.fault(), 1);
        Check.due("where() of bytes 255", x.where(), 0);
        Check.due("size(11) behind a fault", x.size(11), 0);
        Check.due("feed anew", x.feed(0, 0, 0, 0, 0), 20);
    }

    private static void worlds() {
        Check.sound(SMALL, 1);
        Check.sound("  world   hour 5  ; place a;" + WALKER + "   ", 1);
        Check.sound("world hour5;place a tree0;walker z coat0broad1deep1high1from1to1", 1);
        Check.sound("world hour 060;place north inn;" + WALKER, 1);
        Check.sound("world hour 60;place hour;place plain tree 9;road hour north 60 plain awning 60;"
            + "walker coat coat 999 broad 9 deep 9 high 9 from 9 to 9;seen coat 0 , 999,000,0,1", 1);
        Check.sound(SMALL + ";walker y bent 8 broad 9 deep 9 high 9 from 1 to 9;walker x shield 99 broad 1 deep 1 high 1 from 2 to 2", 3);
        Check.sound(SMALL + ";rain drops 0 down 1 wind north 0 chance 0;rain drops 9 down 9 wind west 9 chance 100", 1);
        Check.sound(W + "place abcdefgh;" + WALKER, 1);
        Check.sound(W + "place a;walker y bent 1 broad 1 deep 9 high 2 from 1 to 9;walker x shield 1 broad 1 deep 1 high 1 from 2 to 2", 2);
        RainWalk x = new RainWalk();
        Check.feed(x, SMALL + "!");
        Check.granted("world of the first bytes alone", x, x.world(SMALL.length()), 1);
        Check.due("size(11)", x.size(11), 0);
    }

    private static void refusedWorlds() {
        RainWalk x = Check.of(SMALL);
        Check.granted("day()", x, x.day(0, 0, 7, 0), 0);
        Check.feed(x, "rain");
        Check.refused("world(40)", x, x.world(40), -1, 2);
        Check.due("fault() behind 2", x.fault(), 0);
        Check.refused("world(4)", x, x.world(4), -1, 4);
        Check.due("where()", x.where(), 0);
        Check.due("fault()", x.fault(), 6);
        Check.due("the world stays: size(0)", x.size(0), 5);
        Check.due("the day stays: size(8)", x.size(8), 7);
        Check.due("where(), still", x.where(), 0);
        Check.refused("world(1)", x, x.world(1), -1, 2);
        Check.due("where() behind 2", x.where(), RainWalk.NONE);
        Check.due("fault() behind 2 is the earlier", x.fault(), 6);
        Check.refused("world(0)", x, x.world(0), -1, 4);
        Check.due("fault() of nothing", x.fault(), 1);
        Check.granted("walker(0, 0)", x, x.walker(0, 0), 0);
        Check.due("where() behind another call", x.where(), RainWalk.NONE);
        Check.due("fault() behind another call", x.fault(), 1);
        Check.granted("mark()", x, x.mark(), 0);
        Check.granted("a world anew", x, Check.world(x, "world hour 6;place a;place b;" + WALKER), 1);
        Check.due("fault() of a sound world", x.fault(), 0);
        Check.due("size(0)", x.size(0), 6);
        Check.due("size(2)", x.size(2), 2);
        Check.due("no day: size(6)", x.size(6), -2);
        Check.due("no day: size(8)", x.size(8), 0);
        Check.due("no day: size(10)", x.size(10), 0);
        Check.refused("back(0) without a day", x, x.back(0), 1);
    }

    /** Nothing of an earlier world is left in a later one. */
    private static void worldsAgain() {
        String great = "world hour 9;rain drops 1 down 1 wind east 1 chance 1;place a;place b;road a east 5 b awning 5;"
            + "walker z coat 5 broad 1 deep 1 high 1 from 1 to 1;walker y bent 5 broad 1 deep 1 high 6 from 1 to 1;seen z 1,1,1,1,1";
        RainWalk x = new RainWalk();
        for (int i = 0; i < 4; i++) {
            Check.granted("the great world", x, Check.world(x, great), 2);
            Check.due("its awning", x.road(0, 4), 5);
            Check.due("its coat", x.walker(0, 0), 2);
            for (int k = 0; k < 3; k++) {
                Check.refused("a spoiled great world", x, Check.world(x, great + "!"), -1, 4);
            }
            Check.granted("the small world", x, Check.world(x, SMALL), 1);
            int[] sizes = {5, 0, 1, 0, 1, 0};
            for (int what = 0; what < sizes.length; what++) {
                Check.due("size(" + what + ") of the small world", x.size(what), sizes[what]);
            }
            Check.due("the plain walker", x.walker(0, 0), 0);
            Check.due("by how much", x.walker(0, 1), 0);
            Check.granted("one with a road", x, Check.world(x, W + "place a;place b;road a west 2 b;" + WALKER), 1);
            Check.due("no awning", x.road(0, 4), 0);
            Check.due("one road", x.size(3), 1);
        }
    }

    private static void tokens() {
        Check.fault("World hour 5", 1, 0);
        Check.fault("world hour 5;place a.", 1, 20);
        Check.fault("world hour 5;\nplace a", 1, 13);
        Check.fault("world hour 5;place abcdefghi", 1, 19);
        Check.fault("worldhour 5", 1, 0);
        Check.fault("world hour 0005", 1, 11);
        Check.fault(SMALL + ";place b tree 1234", 1, SMALL.length() + 14);
        Check.fault("world hour 5;place a" + (char) 225, 1, 20);
        Check.fault("world hour 5;place a" + (char) 0, 1, 20);
        Check.fault("   ", 1, 3);
        Check.fault("", 1, 0);
    }

    private static void form() {
        Check.fault("foo", 1, 0);
        Check.fault("world", 1, 5);
        Check.fault("world ", 1, 6);
        Check.fault("world hours 5", 1, 6);
        Check.fault("world hour five", 1, 11);
        Check.fault("world hour 5 6", 1, 13);
        Check.fault("world hour 5;", 1, 13);
        Check.fault("world hour 5;;", 1, 13);
        Check.fault("world hour 5,", 1, 12);
        Check.fault(";", 1, 0);
        Check.fault("5", 1, 0);
        for (String kept : new String[] {"world", "rain", "place", "road", "walker", "seen", "inn", "tree", "awning"}) {
            Check.fault(W + "place " + kept, 1, 19);
            Check.fault(W + "walker " + kept, 1, 20);
            Check.fault(W + "seen " + kept, 1, 18);
            Check.fault(W + "road " + kept, 1, 18);
            Check.fault(W + "place a;road a north 1 " + kept, 1, 36);
        }
        Check.fault(W + "place 7", 1, 19);
        Check.fault(W + "place a b", 1, 21);
        Check.fault(W + "place a inn tree 1", 1, 25);
        Check.fault(W + "place a tree", 1, 25);
        Check.fault(W + "place a;place b;road a 5 b", 1, 36);
        Check.fault(W + "place a;place b;road a north 5 b 6", 1, 46);
        Check.fault(W + "place a;place b;road a north 5 b awning", 1, 52);
        Check.fault(W + "rain drops 1 down 1 wind up 1", 1, 38);
        Check.fault(W + "rain drops 1 down 1 wind north 1 chance 1 1", 1, 55);
        Check.fault(W + "walker z tall 1", 1, 22);
        Check.fault(W + "walker z plain 1", 1, 28);
        Check.fault(W + "walker z bent broad", 1, 27);
        Check.fault(SMALL + ";seen z 1,2,3,4", 1, SMALL.length() + 15);
        Check.fault(SMALL + ";seen z 1,2,3,4,5,6", 1, SMALL.length() + 17);
        Check.fault(SMALL + ";seen z 1 2", 1, SMALL.length() + 10);
    }

    private static void names() {
        Check.fault(W + "road a", 2, 18);
        Check.fault(W + "place a;road a east 5 b", 2, 35);
        Check.fault(W + WALKER + ";road z", 2, W.length() + WALKER.length() + 6);
        Check.fault(W + "place a;seen a", 2, 26);
        Check.fault(SMALL + ";road a north 5 z", 2, SMALL.length() + 16);
        Check.fault(W + "place a;place a", 3, 27);
        Check.fault(W + "place z;" + WALKER, 3, 28);
        Check.fault(W + WALKER + ";place z", 3, W.length() + WALKER.length() + 7);
        Check.fault(SMALL + ";" + WALKER, 3, SMALL.length() + 8);
        Check.fault(W + "place a;road a east 5 a", 3, 35);
        Check.fault(W + "world hour 5", 3, 13);
        Check.fault(W + "seen b", 2, 18);
    }

    private static void bounds() {
        Check.fault("world hour 4", 4, 11);
        Check.fault("world hour 61", 4, 11);
        Check.fault(W + "rain drops 10", 4, 24);
        Check.fault(W + "rain drops 1 down 0", 4, 31);
        Check.fault(W + "rain drops 1 down 10", 4, 31);
        Check.fault(W + "rain drops 1 down 1 wind north 10", 4, 44);
        Check.fault(W + "rain drops 1 down 1 wind north 1 chance 101", 4, 53);
        Check.fault(W + "place a tree 10", 4, 26);
        Check.fault(W + "place a;place b;road a east 0 b", 4, 41);
        Check.fault(W + "place a;place b;road a east 61 b", 4, 41);
        Check.fault(W + "place a;place b;road a east 5 b awning 6", 4, 52);
        Check.fault(W + "walker z bent 0", 4, 27);
        Check.fault(W + "walker z bent 9", 4, 27);
        Check.fault(W + "walker z shield 0", 4, 29);
        Check.fault(W + "walker z shield 100", 4, 29);
        Check.fault(W + "walker z plain broad 0", 4, 34);
        Check.fault(W + "walker z plain broad 10", 4, 34);
        Check.fault(W + "walker z plain broad 1 deep 0", 4, 41);
        Check.fault(W + "walker z plain broad 1 deep 10", 4, 41);
        Check.fault(W + "walker z plain broad 1 deep 1 high 0", 4, 48);
        Check.fault(W + "walker z plain broad 1 deep 1 high 10", 4, 48);
        Check.fault(W + "walker z bent 8 broad 1 deep 1 high 8", 4, 49);
        Check.fault(W + "walker z coat 8 broad 1 deep 1 high 8 from 0", 4, 56);
        Check.fault(W + "walker z coat 8 broad 1 deep 1 high 8 from 5 to 4", 4, 61);
        Check.fault(W + "walker z coat 8 broad 1 deep 1 high 8 from 5 to 10", 4, 61);
    }

    private static void many() {
        Check.fault(W + repeat("rain drops 1 down 1 wind east 1 chance 1;", 6) + "rain", 5, 13 + 6 * 41);
        Check.fault(W + "place a;place b;place c;place d;place e;place f;place g;place h;place h", 5, 13 + 64);
        Check.fault(W + "place a;place b;" + repeat("road a east 1 b;", 12) + "road", 5, 13 + 16 + 12 * 16);
        String walkers = WALKER.replace(" z ", " a ") + ";" + WALKER.replace(" z ", " b ") + ";"
            + WALKER.replace(" z ", " c ") + ";" + WALKER.replace(" z ", " d ") + ";";
        Check.fault(W + walkers + "walker", 5, 13 + walkers.length());
        Check.sound(W + walkers + "place e", 4);
        Check.fault(W + WALKER + ";" + repeat("seen z 1,1,1,1,1;", 4) + "seen", 5, 13 + WALKER.length() + 1 + 4 * 17);
        Check.sound(W + WALKER + ";place a;place b;" + repeat("road a east 1 b;", 11) + "road a east 1 b", 1);
        Check.sound(SMALL + repeat(";rain drops 1 down 1 wind east 1 chance 1", 6), 1);
        Check.sound(SMALL + repeat(";seen z 1,1,1,1,1", 4), 1);
    }

    private static void lacks() {
        for (String word : new String[] {"rain", "place", "road", "walker", "seen"}) {
            Check.fault(word, 6, 0);
            Check.fault("  " + word + " x", 6, 2);
        }
        Check.fault("place a;" + W, 6, 0);
        Check.fault("world hour 5", 6, 12);
        Check.fault("world hour 5  ", 6, 14);
        Check.fault(W + "place a", 6, 20);
        Check.fault(W + WALKER, 6, W.length() + WALKER.length());
    }

    private static void leastNumber() {
        Check.fault("rain!", 6, 0);
        Check.fault(W + "place", 1, 18);
        Check.fault(W + "place a;place a!", 3, 27);
        Check.fault(W + "rain drops 99 !", 4, 24);
        Check.fault(W + "place a;place b;place c;place d;place e;place f;place g;place h;place", 5, 77);
    }

    private static String repeat(String part, int times) {
        StringBuilder all = new StringBuilder();
        for (int i = 0; i < times; i++) {
            all.append(part);
        }
        return all.toString();
    }
}
