import java.util.Map;
import java.util.function.ToLongFunction;

/** The boundaries that the promises 1 to 5 and Term I name: nothing told, THE TAPE, worlds refused, every WHOLE, every room. */
public final class EdgeTextTest {
    private static final String HEAD = Worlds.HEAD;
    private static final String WALKER = Worlds.WALKER;
    private static final String SMALL = Worlds.SMALL;
    private static final int MAX = Integer.MAX_VALUE;
    private static final int MIN = Integer.MIN_VALUE;

    public static void main(String[] args) {
        newObject();
        tapeByTwenties();
        highestByteFirst();
        fullTapeRefusesMore();
        worldOfAsManyBytesAsThereAre();
        tapeStaysByTwo();
        tapeIsEmptyByFour();
        worldStaysByFour();
        dayEndsByAWorld();
        faultOfTheLatest();
        whereOnlyBehindFour();
        wordsOfOneToEight();
        wholesOfOneToThree();
        everyWhole();
        wholesByOthers();
        roomsFull();
        roomsAreEmptyForEachText();
        oneMoreThanThereIsRoomFor();
        linesThatAreCutOff();
        namesThatAreKept();
        namesAheadOfTheirUse();
        worldAheadOfAll();
        atTheEnd();
        ofOnePlaceTheLeast();
        fromTheLeft();
        Check.end("EdgeTextTest");
    }

    // ---- promise 1

    /** "No WORLD": every call that may be refused is, and each tells that there is none such, but undo and world. */
    private static void newObject() {
        for (Map.Entry<String, ToLongFunction<RainWalk>> call : Calls.refusable().entrySet()) {
            RainWalk x = new RainWalk();
            String name = call.getKey();
            int trouble = name.equals("world") ? 4 : name.equals("undo") ? 6 : 1;
            Check.refused("new " + name, x, call.getValue().applyAsLong(x), Calls.none(name), trouble);
            Check.due("where() behind new " + name, x.where(), name.equals("world") ? 0 : -1);
        }
        RainWalk x = new RainWalk();
        Check.due("new trouble()", x.trouble(), 0);
        Check.due("new fault()", x.fault(), 0);
        Check.due("new where()", x.where(), -1);
        Check.due("new led(0) throws", Check.ledThrows(x, 0), true);
        for (int what = -1; what <= 12; what++) {
            int due = what < 0 || what > 11 ? -1 : what == 6 || what == 7 ? -2 : 0;
            Check.due("new size(" + what + ")", x.size(what), due);
        }
        numbersToo(new RainWalk());
    }

    /** Where there is none such, no number is looked at. */
    private static void numbersToo(RainWalk x) {
        Check.refused("new face, no face, no speed", x, x.face(0, 0, 0, 0, 0, 5, false), -1, 1);
        Check.refused("new minutes, no speed", x, x.minutes(0, 0, 0), -1, 1);
        Check.refused("new lee, no speed", x, x.lee(0, 1, 0, 0, 0, 0, false), -1, 1);
        Check.refused("new least, no till", x, x.least(0, 0, 0, 0, -1, false), -1, 1);
        Check.refused("new step, no till", x, x.step(0, 0, 0, 0, 401, -1), -1, 1);
        Check.refused("new off, no till", x, x.off(0, 0, 0, 401), -1, 1);
        Check.refused("new day, no seed", x, x.day(0, 0, -1, 65537), -1, 1);
        Check.refused("new go, no speed", x, x.go(0, 0, 0), -1, 1);
        Check.refused("new stay, no number", x, x.stay(0), 1);
        Check.refused("new world(1)", x, x.world(1), -1, 2);
        Check.refused("new world(-1)", x, x.world(-1), -1, 2);
    }

    // ---- promise 2

    private static void tapeByTwenties() {
        RainWalk x = new RainWalk();
        Check.due("nothing on THE TAPE", x.size(11), 0);
        for (int i = 1; i <= 45; i++) {
            Check.due("feed " + i, x.feed(MIN, MAX, 0, -1, 1), 20 * i);
            Check.due("size(11) behind feed " + i, x.size(11), 20 * i);
        }
        Check.due("a feed more", x.feed(0, 0, 0, 0, 0), -1);
        Check.due("and another", x.feed(MIN, MAX, 0, -1, 1), -1);
        Check.due("size(11)", x.size(11), 900);
    }

    /** Each of the twenty bytes in turn is the one that begins no TOKEN; the others are blanks. */
    private static void highestByteFirst() {
        for (int spoiled = 0; spoiled < 20; spoiled++) {
            for (int sign : new int[] {'!', 0, 31, 33, 127, 128, 255, 'A', 'Z', '`', '{', '/', ':', '-'}) {
                int[] numbers = {0x20202020, 0x20202020, 0x20202020, 0x20202020, 0x20202020};
                int shift = 8 * (3 - spoiled % 4);
                numbers[spoiled / 4] = numbers[spoiled / 4] & ~(255 << shift) | sign << shift;
                RainWalk x = new RainWalk();
                Check.due("feed", x.feed(numbers[0], numbers[1], numbers[2], numbers[3], numbers[4]), 20);
                Check.refused("world, byte " + spoiled + " is " + sign, x, x.world(20), -1, 4);
                Check.due("fault()", x.fault(), 1);
                Check.due("where()", x.where(), spoiled);
            }
        }
    }

    /** "NONE, and none comes": what was fed is read as it was. */
    private static void fullTapeRefusesMore() {
        RainWalk x = new RainWalk();
        Check.feed(x, Worlds.padded(SMALL, 900));
        Check.due("all is fed", x.size(11), 900);
        x.walker(0, 0);
        Check.due("a feed more", x.feed(-1, -1, -1, -1, -1), -1);
        Check.due("trouble() is that of the call ahead", x.trouble(), 1);
        Check.granted("world(900)", x, x.world(900), 1);
        Check.due("size(11)", x.size(11), 0);
        Check.due("feed into the empty TAPE", x.feed(0, 0, 0, 0, 0), 20);
    }

    // ---- promise 3

    private static void worldOfAsManyBytesAsThereAre() {
        RainWalk x = new RainWalk();
        for (int n : new int[] {1, -1, MIN, MAX, 900, 20}) {
            Check.refused("world(" + n + ") of nothing", x, x.world(n), -1, 2);
        }
        Check.refused("world(0) of nothing", x, x.world(0), -1, 4);
        x.feed(0x20202020, 0x20202020, 0x20202020, 0x20202020, 0x20202020);
        for (int n : new int[] {21, -1, MIN, MAX, 900, 901}) {
            Check.refused("world(" + n + ") of twenty", x, x.world(n), -1, 2);
        }
        Check.refused("world(20) of twenty", x, x.world(20), -1, 4);
        Check.due("where() of twenty blanks", x.where(), 20);
        String last = Worlds.padded(SMALL, 900);
        Check.sound(last, 1);
        Check.fault(last.substring(0, 899) + "!", 1, 899);
        Check.fault(last.substring(0, 899) + " ", 1, 900);
        RainWalk y = new RainWalk();
        Check.feed(y, last.substring(0, 898) + "12");
        Check.refused("901 bytes of 900", y, y.world(901), -1, 2);
        Check.granted("899 bytes: the whole ends there", y, y.world(899), 1);
        Check.due("walker(0, 6)", y.walker(0, 6), 1);
    }

    private static void tapeStaysByTwo() {
        RainWalk x = new RainWalk();
        Check.feed(x, SMALL);
        int fed = x.size(11);
        for (int n : new int[] {-1, fed + 1, MAX, MIN}) {
            Check.refused("world(" + n + ")", x, x.world(n), -1, 2);
            Check.due("size(11) stays", x.size(11), fed);
            Check.due("size(0): no world yet", x.size(0), 0);
        }
        Check.granted("world of what stayed", x, x.world(fed), 1);
        Check.due("size(11)", x.size(11), 0);
    }

    private static void tapeIsEmptyByFour() {
        RainWalk x = new RainWalk();
        Check.feed(x, SMALL + "!");
        Check.refused("a FAULT", x, x.world(SMALL.length() + 1), -1, 4);
        Check.due("size(11)", x.size(11), 0);
        Check.refused("its bytes are gone", x, x.world(1), -1, 2);
        Check.feed(x, SMALL);
        Check.granted("what is fed then stands at the beginning", x, x.world(SMALL.length()), 1);
    }

    private static RainWalk inTheMidst() {
        RainWalk x = Check.of(Worlds.FULL);
        x.day(2, 1, 19, 0);
        x.stay(2);
        x.mark();
        x.go(8, 0, 1);
        x.go(8, 1, 1);
        x.mark();
        x.stay(4);
        return x;
    }

    private static void worldStaysByFour() {
        String[] faulty = {"", "x", "rain", "world hour 61", HEAD + "place a;place a", HEAD + "road a", HEAD + "place a", HEAD + WALKER,
            Worlds.FULL + ";place i", Worlds.FULL + ";"};
        for (String text : faulty) {
            RainWalk x = inTheMidst();
            Check.refused("world of " + text, x, Check.world(x, text), -1, 4);
            State.stayed("world of " + text, x, inTheMidst());
        }
        for (int n : new int[] {-1, 1}) {
            RainWalk x = inTheMidst();
            Check.refused("world(" + n + ")", x, x.world(n), -1, 2);
            State.stayed("world(" + n + ")", x, inTheMidst());
        }
        RainWalk x = Check.of(Worlds.FULL);
        long least = x.least(0, 0, 7, 3, 99, false);
        Check.refused("world between ways", x, Check.world(x, SMALL + ";"), -1, 4);
        Check.granted("the same way", x, x.least(0, 0, 7, 3, 99, false), least);
    }

    private static void dayEndsByAWorld() {
        RainWalk x = inTheMidst();
        Check.granted("the same text once more", x, Check.world(x, Worlds.FULL), 4);
        int[] due = {5, 6, 8, 12, 4, 4, -2, -2, 0, 0, 0, 0};
        for (int what = 0; what < due.length; what++) {
            Check.due("size(" + what + ") of it", x.size(what), due[what]);
        }
        for (String name : new String[] {"got", "wetness", "soaked", "go", "stay", "undo", "mark", "back"}) {
            long got = Calls.refusable().get(name).applyAsLong(x);
            Check.refused(name + " without a DAY", x, got, Calls.none(name), name.equals("undo") ? 6 : 1);
        }
        Check.due("led(0) throws", Check.ledThrows(x, 0), true);
    }

    // ---- promises 4 and 5

    private static void faultOfTheLatest() {
        String[] texts = {"x", HEAD + "seen z", HEAD + "world", "world hour 4", HEAD + fourWalkers() + "walker", "seen"};
        RainWalk x = new RainWalk();
        for (int number = 1; number <= 6; number++) {
            Check.refused("a text with fault " + number, x, Check.world(x, texts[number - 1]), -1, 4);
            Check.due("fault()", x.fault(), number);
            Check.refused("world(-1)", x, x.world(-1), -1, 2);
            Check.due("fault() behind 2 is the earlier", x.fault(), number);
        }
        Check.granted("a sound text", x, Check.world(x, SMALL), 1);
        Check.due("fault() without one", x.fault(), 0);
        Check.refused("world(1)", x, x.world(1), -1, 2);
        Check.due("fault() behind 2, without one", x.fault(), 0);
    }

    private static String fourWalkers() {
        StringBuilder all = new StringBuilder();
        for (char name = 'q'; name < 'u'; name++) {
            all.append(WALKER.replace(" z ", " " + name + " ")).append(';');
        }
        return all.toString();
    }

    /** A place is told until the next call that may be refused, whether it is or not. */
    private static void whereOnlyBehindFour() {
        for (String told : new String[] {"", Worlds.FULL}) {
            for (Map.Entry<String, ToLongFunction<RainWalk>> call : Calls.refusable().entrySet()) {
                RainWalk x = new RainWalk();
                if (!told.isEmpty()) {
                    Check.world(x, told);
                }
                Check.refused("a FAULT", x, Check.world(x, "world hour 7;x"), -1, 4);
                Calls.unrefusable(x);
                Check.due("where() behind calls that no number is told of", x.where(), 13);
                Check.due("trouble() behind them", x.trouble(), 4);
                call.getValue().applyAsLong(x);
                boolean again = call.getKey().equals("world");
                Check.due("where() behind " + call.getKey(), x.where(), again ? 0 : -1);
                Check.due("trouble() behind " + call.getKey() + " is 4", x.trouble() == 4, again);
                Check.due("fault() behind " + call.getKey(), x.fault(), 1);
            }
        }
        RainWalk x = new RainWalk();
        Check.refused("a FAULT", x, Check.world(x, "x"), -1, 4);
        Check.refused("world(-1)", x, x.world(-1), -1, 2);
        Check.due("where() behind 2", x.where(), -1);
        Check.refused("a FAULT at 0", x, Check.world(x, "x"), -1, 4);
        Check.due("where() is 0", x.where(), 0);
        Check.granted("a sound text", x, Check.world(x, SMALL), 1);
        Check.due("where() without one", x.where(), -1);
    }

    // ---- TOKENS

    private static void wordsOfOneToEight() {
        Check.sound(HEAD + "place a;" + WALKER, 1);
        Check.sound(HEAD + "place abcdefgh;" + WALKER, 1);
        Check.fault(HEAD + "place abcdefghi;" + WALKER, 1, 19);
        Check.fault(HEAD + "place " + "a".repeat(16) + ";" + WALKER, 1, 19);
        Check.sound(HEAD + "place abcdefgh;place abcdefgi;place abcdefg;place bbcdefgh;place bcdefgh;" + WALKER, 1);
        Check.fault(HEAD + "place abcdefgh;place abcdefgh;" + WALKER, 3, 34);
        Check.sound(HEAD + "place zzzzzzzz;place zzzzzzz;" + WALKER, 1);
        Check.fault("worldhour5;place a;" + WALKER, 1, 0);
        Check.fault("w orld hour 5;place a;" + WALKER, 1, 0);
        Check.sound("world hour5;place a;" + WALKER, 1);
        Check.sound("     world     hour     5     ;     place     a     ;     " + WALKER + "     ", 1);
        Check.fault(HEAD + "place a b;" + WALKER, 1, 21);
        Check.fault(HEAD + "place a1;" + WALKER, 1, 20);
    }

    private static void wholesOfOneToThree() {
        Check.sound("world hour 5;place a;" + WALKER, 1);
        Check.sound("world hour 05;place a;" + WALKER, 1);
        Check.sound("world hour 005;place a;" + WALKER, 1);
        Check.fault("world hour 0005;place a;" + WALKER, 1, 11);
        Check.fault("world hour 6 0;place a;" + WALKER, 1, 13);
        Check.fault("world hour 00000000000000000005;place a;" + WALKER, 1, 11);
        Check.fault("world hour 4294967301;place a;" + WALKER, 1, 11);
        RainWalk x = Check.of("world hour 010;place a;" + WALKER);
        Check.due("010 is ten", x.size(0), 10);
    }

    // ---- bounds

    /** A WHOLE between two parts of a text: its least and its greatest are taken, those beyond aren't. */
    private static void whole(String ahead, String behind, int least, int most) {
        int at = ahead.length();
        for (int number : new int[] {least, most}) {
            Check.sound(ahead + number + behind, 1);
            Check.sound(ahead + String.format("%03d", number) + behind, 1);
            Check.fault(ahead + "0" + String.format("%03d", number) + behind, 1, at);
        }
        if (least > 0) {
            Check.fault(ahead + (least - 1) + behind, 4, at);
            Check.fault(ahead + "0" + behind, 4, at);
        }
        Check.fault(ahead + (most + 1) + behind, most < 999 ? 4 : 1, at);
        Check.fault(ahead + "1000" + behind, 1, at);
        if (most < 999) {
            Check.fault(ahead + "999" + behind, 4, at);
        }
        Check.fault(ahead + "north" + behind, 1, at);
        Check.fault(ahead + "," + behind, 1, at);
        Check.fault(ahead + ";" + behind, 1, at);
        Check.fault(ahead, 1, at);
        Check.fault(ahead + "-1" + behind, 1, at);
    }

    private static void everyWhole() {
        String tail = ";place y;" + WALKER;
        whole("world hour ", tail, 5, 60);
        String rain = HEAD + "rain drops ";
        whole(rain, " down 1 wind north 1 chance 1" + tail, 0, 9);
        whole(rain + "1 down ", " wind north 1 chance 1" + tail, 1, 9);
        for (String side : new String[] {"north", "east", "south", "west"}) {
            whole(rain + "1 down 1 wind " + side + " ", " chance 1" + tail, 0, 9);
        }
        whole(rain + "1 down 1 wind north 1 chance ", tail, 0, 100);
        whole(HEAD + "place a tree ", tail, 0, 9);
        String road = HEAD + "place a;place b;road a north ";
        whole(road, " b" + tail, 1, 60);
        whole(road, " b awning 0" + tail, 1, 60);
        String walker = HEAD + "place y;walker z ";
        whole(walker + "bent ", " broad 1 deep 1 high 9 from 1 to 1", 1, 8);
        whole(walker + "coat ", " broad 1 deep 1 high 1 from 1 to 1", 0, 999);
        whole(walker + "shield ", " broad 1 deep 1 high 1 from 1 to 1", 1, 99);
        for (String kind : new String[] {"plain", "bent 1", "coat 0", "shield 99"}) {
            whole(walker + kind + " broad ", " deep 1 high 9 from 1 to 1", 1, 9);
            whole(walker + kind + " broad 1 deep ", " high 9 from 1 to 1", 1, 9);
            whole(walker + kind + " broad 1 deep 1 high ", " from 1 to 1", kind.equals("bent 1") ? 2 : 1, 9);
            whole(walker + kind + " broad 1 deep 1 high 9 from ", " to 9", 1, 9);
            whole(walker + kind + " broad 1 deep 1 high 9 from 1 to ", "", 1, 9);
        }
        for (int face = 0; face < 5; face++) {
            whole(SMALL + ";seen z " + "7,".repeat(face), ",7".repeat(4 - face), 0, 999);
        }
    }

    /** Bounds that an earlier WHOLE sets: the awning, high, the second speed. */
    private static void wholesByOthers() {
        for (int length : new int[] {1, 2, 9, 59, 60}) {
            whole(HEAD + "place a;place b;road a north " + length + " b awning ", ";" + WALKER, 0, length);
        }
        for (int bow = 1; bow <= 8; bow++) {
            whole(HEAD + "place y;walker z bent " + bow + " broad 1 deep 1 high ", " from 1 to 1", bow + 1, 9);
        }
        for (int slowest = 1; slowest <= 9; slowest++) {
            whole(HEAD + "place y;walker z plain broad 1 deep 1 high 1 from " + slowest + " to ", "", slowest, 9);
        }
        whole(HEAD + "place y;walker z coat 8 broad 1 deep 1 high ", " from 1 to 1", 1, 9);
        whole(HEAD + "place y;walker z shield 8 broad 1 deep 1 high ", " from 1 to 1", 1, 9);
    }

    // ---- rooms

    private static void roomsFull() {
        Check.due("the text fits THE TAPE", Worlds.FULL.length() <= 900, true);
        Check.sound(Worlds.FULL, 4);
        RainWalk x = Check.of(Worlds.FULL);
        int[] full = {5, 6, 8, 12, 4, 4};
        for (int what = 0; what < full.length; what++) {
            Check.due("size(" + what + ")", x.size(what), full[what]);
        }
        RainWalk y = Check.of(SMALL);
        int[] least = {5, 0, 1, 0, 1, 0};
        for (int what = 0; what < least.length; what++) {
            Check.due("size(" + what + ") of the least", y.size(what), least[what]);
        }
    }

    /** The rooms that one text filled, or a FAULT left half full, are empty for the next; nothing of a line is left in a later one. */
    private static void roomsAreEmptyForEachText() {
        RainWalk x = new RainWalk();
        String plain = HEAD + "place a;place b;road a west 2 b;" + WALKER;
        for (int i = 0; i < 3; i++) {
            Check.granted("all rooms full, time " + i, x, Check.world(x, Worlds.FULL), 4);
            Check.refused("and a FAULT behind them", x, Check.world(x, Worlds.FULL + "!"), -1, 4);
            Check.due("at its end", x.where(), Worlds.FULL.length());
            Check.granted("little is told", x, Check.world(x, plain), 1);
            int[] due = {5, 0, 2, 1, 1, 0};
            for (int what = 0; what < due.length; what++) {
                Check.due("size(" + what + ")", x.size(what), due[what]);
            }
            Check.due("no awning is left", x.road(0, 4), 0);
            Check.refused("no place, though the text ahead told one", x, Check.world(x, HEAD + WALKER), -1, 4);
            Check.due("fault()", x.fault(), 6);
            Check.refused("no walker, though the text ahead told one", x, Check.world(x, HEAD + "place a"), -1, 4);
            Check.due("fault()", x.fault(), 6);
            Check.refused("a NAME of the text ahead", x, Check.world(x, HEAD + "place c;road a"), -1, 4);
            Check.due("fault()", x.fault(), 2);
        }
        Check.world(x, HEAD + "place a inn;walker k coat 7 broad 1 deep 1 high 1 from 1 to 1");
        Check.world(x, SMALL);
        Check.world(x, SMALL);
        Check.due("KIND of the plain one", x.walker(0, 0), 0);
        Check.due("by how much", x.walker(0, 1), 0);
        x.day(0, 0, 0, 0);
        Check.refused("no inn is left", x, x.stay(1), 5);
    }

    /** Behind each TOKEN but the last the text ends, or the next LINE comes: FORM at that place. */
    private static void linesThatAreCutOff() {
        String[] lines = {"world hour 5", "rain drops 1 down 1 wind east 1 chance 1", "place y", "place y tree 1", "road a east 1 b",
            "road a east 1 b awning 1", "walker y plain broad 1 deep 1 high 1 from 1 to 1", "walker y bent 1 broad 1 deep 1 high 2 from 1 to 1",
            "walker y coat 1 broad 1 deep 1 high 1 from 1 to 1", "walker y shield 1 broad 1 deep 1 high 1 from 1 to 1",
            "seen z 1 , 1 , 1 , 1 , 1"};
        for (String line : lines) {
            String ahead = line.startsWith("world") ? "" : HEAD + "place a;place b;" + WALKER + ";";
            String[] tokens = line.split(" ");
            String cut = ahead;
            for (int i = 0; i + 1 < tokens.length; i++) {
                cut += (i > 0 ? " " : "") + tokens[i];
                boolean whole = tokens[0].equals("place") && i == 1 || tokens[0].equals("road") && i == 4;
                if (whole) {
                    Check.sound(cut, 1);
                    Check.sound(cut + ";place x", 1);
                } else {
                    Check.fault(cut, 1, cut.length());
                    Check.fault(cut + "  ", 1, cut.length() + 2);
                    Check.fault(cut + ";place x", 1, cut.length());
                    Check.fault(cut + " ;place x", 1, cut.length() + 1);
                    Check.fault(cut + " world", 1, cut.length() + 1);
                    Check.fault(cut + "?", 1, cut.length());
                }
            }
        }
    }

    /** "5 MANY ... at its first WORD", whatever stands behind that; in a full world and where only its own sort is full. */
    private static void oneMoreThanThereIsRoomFor() {
        String[] lines = {"rain drops 1 down 1 wind east 1 chance 1", "place i", "road a east 1 b",
            "walker j plain broad 1 deep 1 high 1 from 1 to 1", "seen z 1,1,1,1,1"};
        int[] room = {6, 8, 12, 4, 4};
        Check.sound(Worlds.FULL + " ", 4);
        for (int sort = 0; sort < lines.length; sort++) {
            String word = lines[sort].substring(0, lines[sort].indexOf(' '));
            for (String line : new String[] {word, word + " !", word + " " + word, word + ";"}) {
                Check.fault(Worlds.FULL + ";" + line, 5, Worlds.FULL.length() + 1);
                Check.fault(Worlds.FULL + " ; " + line, 5, Worlds.FULL.length() + 3);
            }
            StringBuilder all = new StringBuilder(HEAD + "place a;place b;" + WALKER);
            int told = sort == 1 ? 2 : sort == 3 ? 1 : 0;
            for (int i = told; i < room[sort]; i++) {
                all.append(';').append(lines[sort].replace(" i", " i" + (char) ('a' + i)).replace(" j", " j" + (char) ('a' + i)));
                Check.sound(all.toString(), sort == 3 ? i + 1 : 1);
            }
            Check.fault(all + ";" + lines[sort], 5, all.length() + 1);
        }
    }

    // ---- NAMES

    private static void namesThatAreKept() {
        for (String kept : new String[] {"world", "rain", "place", "road", "walker", "seen", "inn", "tree", "awning"}) {
            Check.fault(HEAD + "place " + kept + ";" + WALKER, 1, 19);
            Check.fault(HEAD + "place a;" + WALKER.replace("z", kept), 1, 28);
            Check.fault(HEAD + "place a;road " + kept + " east 1 a", 1, 26);
            Check.fault(HEAD + "place a;road a east 1 " + kept, 1, 35);
            Check.fault(SMALL + ";seen " + kept + " 1,1,1,1,1", 1, SMALL.length() + 6);
            Check.sound(HEAD + "place " + kept + "s;" + WALKER, 1);
            Check.sound(HEAD + "place x" + kept + ";" + WALKER, 1);
            Check.sound(HEAD + "place " + kept.substring(1) + ";" + WALKER, 1);
        }
        for (String free : new String[] {"hour", "drops", "down", "wind", "chance", "north", "east", "south", "west", "plain", "bent",
            "coat", "shield", "broad", "deep", "high", "from", "to"}) {
            Check.sound(HEAD + "place " + free + ";place b;road " + free + " east 1 b;road b west 1 " + free + ";" + WALKER, 1);
            Check.sound(HEAD + "place a;" + WALKER.replace("z", free) + ";seen " + free + " 1,1,1,1,1", 1);
        }
    }

    private static void namesAheadOfTheirUse() {
        Check.fault(HEAD + "road a east 1 b;place a;place b;" + WALKER, 2, 18);
        Check.fault(HEAD + "place a;road a east 1 b;place b;" + WALKER, 2, 35);
        Check.fault(HEAD + "place a;seen z 1,1,1,1,1;" + WALKER, 2, 26);
        Check.fault(SMALL + ";road z east 1 a", 2, SMALL.length() + 6);
        Check.fault(SMALL + ";road a east 1 z", 2, SMALL.length() + 15);
        Check.fault(SMALL + ";seen a 1,1,1,1,1", 2, SMALL.length() + 6);
        Check.fault(SMALL + ";seen zz 1,1,1,1,1", 2, SMALL.length() + 6);
        Check.fault(SMALL + ";road a east 1 a", 3, SMALL.length() + 15);
        Check.fault(SMALL + ";place a", 3, SMALL.length() + 7);
        Check.fault(SMALL + ";place z", 3, SMALL.length() + 7);
        Check.fault(SMALL + ";walker a", 3, SMALL.length() + 8);
        Check.fault(SMALL + ";walker z", 3, SMALL.length() + 8);
        Check.sound(SMALL + ";place b;road a east 1 b;road b east 1 a;road a east 1 b", 1);
        String eight = HEAD + "place a;place b;place c;place d;place e;place f;place g;place h;" + fourWalkers();
        Check.sound(eight + "road h east 1 a;road a east 1 h;seen t 1,1,1,1,1;seen q 1,1,1,1,1", 4);
        Check.fault(eight + "road h east 1 q", 2, eight.length() + 14);
        Check.fault(eight + "seen h 1,1,1,1,1", 2, eight.length() + 5);
        Check.fault(HEAD + "place a;place b;place c;place d;place e;place f;place g;" + fourWalkers() + "place t", 3, HEAD.length()
            + 56 + fourWalkers().length() + 6);
    }

    // ---- the world ahead of all, the end

    private static void worldAheadOfAll() {
        for (String word : new String[] {"rain", "place", "road", "walker", "seen"}) {
            Check.fault(word, 6, 0);
            Check.fault("    " + word + " x;" + SMALL, 6, 4);
            Check.fault(word + " !", 6, 0);
        }
        Check.fault(WALKER + ";" + SMALL, 6, 0);
        Check.fault("inn", 1, 0);
        Check.fault("; world hour 5", 1, 0);
        Check.fault(SMALL + ";world", 3, SMALL.length() + 1);
        Check.fault(SMALL + ";world hour 5", 3, SMALL.length() + 1);
        Check.fault(SMALL + ";  world hour 61", 3, SMALL.length() + 3);
        Check.fault(HEAD + "world", 3, 13);
    }

    private static void atTheEnd() {
        Check.fault("world hour 5", 6, 12);
        Check.fault("world hour 5   ", 6, 15);
        Check.fault(HEAD + "place a", 6, 20);
        Check.fault(HEAD + WALKER, 6, HEAD.length() + WALKER.length());
        Check.fault(HEAD + "rain drops 1 down 1 wind east 1 chance 1", 6, 53);
        Check.fault(SMALL + ";", 1, SMALL.length() + 1);
        Check.fault(SMALL + " ; ", 1, SMALL.length() + 3);
        Check.fault(SMALL + ",", 1, SMALL.length());
        Check.fault("", 1, 0);
        Check.fault(" ", 1, 1);
        String last = Worlds.padded(HEAD + "place a", 900);
        Check.fault(last, 6, 900);
        for (int n = 0; n < SMALL.length(); n++) {
            RainWalk x = new RainWalk();
            Check.feed(x, SMALL);
            Check.refused("the first " + n + " bytes", x, x.world(n), -1, 4);
            Check.due("none of them is wrong alone: where()", x.where() == n || startsAWord(n, x.where()), true);
        }
    }

    /** The word that is cut off is no word that may stand there. */
    private static boolean startsAWord(int n, int where) {
        return where < n && SMALL.substring(where, n).matches("[a-z]+") && Character.isLetter(SMALL.charAt(n))
            && (where == 0 || !Character.isLetter(SMALL.charAt(where - 1)));
    }

    private static void ofOnePlaceTheLeast() {
        Check.fault(HEAD, 1, 13);
        Check.fault(HEAD + "place a;", 1, 21);
        Check.fault(HEAD + "road inn", 1, 18);
        Check.fault(HEAD + "seen 9", 1, 18);
        Check.fault("world hour 1000", 1, 11);
        Check.fault(SMALL + ";road z", 2, SMALL.length() + 6);
        Check.fault(SMALL + ";road a east 1 z", 2, SMALL.length() + 15);
    }

    private static void fromTheLeft() {
        Check.fault("rain;world hour 4;x", 6, 0);
        Check.fault("world hour 4;x", 4, 11);
        Check.fault(HEAD + "x;road a", 1, 13);
        Check.fault(HEAD + "road a;x", 2, 18);
        Check.fault(HEAD + "place a;place a;x", 3, 27);
        Check.fault(HEAD + "place a;road a east 0 a", 4, 33);
        Check.fault(HEAD + "place a;road a up 0 a", 1, 28);
        Check.fault(HEAD + "place a;road a east 1 b awning 2", 2, 35);
        Check.fault(HEAD + "place a;road a east 1 a awning 2", 3, 35);
        Check.fault(Worlds.FULL + ";place a;x", 5, Worlds.FULL.length() + 1);
        Check.fault(HEAD + "place a;walker a tall", 3, 28);
        Check.fault(HEAD + "walker z bent 9 tall 0", 4, 27);
        Check.fault(HEAD + "walker z bent 5 broad 1 deep 1 high 5 from 0 to 0", 4, 49);
        Check.fault(HEAD + "place a", 6, 20);
        Check.fault(HEAD + "place a!", 1, 20);
    }
}
