import java.util.NoSuchElementException;

/** Walk or run in the rain: a world told as a text, how wet its walkers get, the least wet ways, days that are drawn. */
public final class RainWalk {
    public static final int NONE = -1;

    private static final int TAPE_ROOM = 900;
    private static final int FEED_BYTES = 20;

    private static final int HOUR_ROOM = 6;
    private static final int PLACE_ROOM = 8;
    private static final int ROAD_ROOM = 12;
    private static final int WALKER_ROOM = 4;
    private static final int SEEN_ROOM = 4;
    private static final int UNDO_ROOM = 16;
    private static final int MARK_ROOM = 3;

    private static final int FACES = 5;
    private static final int TOP = 0;
    private static final int FRONT = 1;
    private static final int BACK = 2;
    private static final int LEFT = 3;
    private static final int RIGHT = 4;

    private static final int BENT = 1;
    private static final int COAT = 2;
    private static final int SHIELD = 3;

    private static final int FASTEST = 9;
    /** Every speed divides it, so that what is got is kept as a whole number of such parts. */
    private static final int PARTS = 2520;
    private static final int PERCENT = 100;
    /** Above all that can be got. */
    private static final long ENDLESS = 1L << 62;

    private static final int LAST_TILL = 400;
    private static final int LAST_MINUTE = 999;
    private static final int LONGEST_STAY = 60;
    private static final int SEED_MODULUS = 65537;

    private static final int REFUSED_NOT = 0;
    private static final int NONE_SUCH = 1;
    private static final int BAD_NUMBER = 2;
    private static final int NO_ROOM = 3;
    private static final int FAULTY = 4;
    private static final int NOT_SO = 5;
    private static final int THERE_IS_NONE = 6;

    private static final int WITHOUT = -2;
    private static final int NO_AIR = -100;
    private static final int NO_WAITING = -1;

    private final byte[] tape = new byte[TAPE_ROOM];
    private int taped;
    private World told = new World();
    private final Reader reader = new Reader();
    private final Leg leg = new Leg();
    private final Ways ways = new Ways();
    private final Day today = new Day();
    private int faultNumber;
    private int faultPlace;
    private int refusal;

    public RainWalk() {
    }

    // ---- the world

    public int feed(int a, int b, int c, int d, int e) {
        if (taped + FEED_BYTES > TAPE_ROOM) {
            return NONE;
        }
        putBytes(a);
        putBytes(b);
        putBytes(c);
        putBytes(d);
        putBytes(e);
        return taped;
    }

    private void putBytes(int number) {
        for (int shift = 24; shift >= 0; shift -= 8) {
            if (taped >= 0 && taped < tape.length) {
                tape[taped] = (byte) (number >>> shift);
                taped++;
            }
        }
    }

    public int world(int n) {
        if (n < 0 || n > taped) {
            return refuse(BAD_NUMBER);
        }
        boolean sound = reader.read(tape, n);
        taped = 0;
        faultNumber = reader.fault;
        faultPlace = reader.faultAt;
        if (!sound) {
            return refuse(FAULTY);
        }
        told = reader.exchange(told);
        ways.forget();
        today.end();
        return grant(told.walkers);
    }

    public int fault() {
        return faultNumber;
    }

    public int where() {
        return refusal == FAULTY ? faultPlace : NONE;
    }

    private int refuse(int number) {
        refusal = number;
        return NONE;
    }

    private int grant(int answer) {
        refusal = REFUSED_NOT;
        return answer;
    }

    /** Takes note of a trouble, 0 too, and tells whether the call is refused by it. */
    private boolean refusedBy(int number) {
        refusal = number;
        return number != REFUSED_NOT;
    }

    // ---- legs

    public long face(int walker, int road, int way, int hour, int speed, int face, boolean lower) {
        int number = isFace(face) ? legTrouble(walker, road, way, hour, speed) : NONE_SUCH;
        if (refusedBy(number)) {
            return NONE;
        }
        leg.wetOf(told.walker[walker], told.road[road], way, told.rain[hour], speed);
        return fraction(leg.faces[face], PARTS, lower);
    }

    public long wet(int walker, int road, int way, int hour, int speed, boolean lower) {
        if (refusedBy(legTrouble(walker, road, way, hour, speed))) {
            return NONE;
        }
        return fraction(leg.wetOf(told.walker[walker], told.road[road], way, told.rain[hour], speed), PARTS, lower);
    }

    public long mean(int walker, int road, int way, int hour, int speed, boolean lower) {
        if (refusedBy(legTrouble(walker, road, way, hour, speed))) {
            return NONE;
        }
        long all = leg.wetOf(told.walker[walker], told.road[road], way, told.rain[hour], speed);
        return fraction(all * told.rain[hour].chance, PARTS * PERCENT, lower);
    }

    public int minutes(int walker, int road, int speed) {
        if (!told.hasWalker(walker) || !told.hasRoad(road)) {
            return refuse(NONE_SUCH);
        }
        if (!told.walker[walker].canGo(speed)) {
            return refuse(BAD_NUMBER);
        }
        return grant(told.road[road].minutesAt(speed));
    }

    public int air(int road, int way, int hour) {
        if (!told.hasRoad(road) || !isWay(way) || !told.hasHour(hour)) {
            refusal = NONE_SUCH;
            return NO_AIR;
        }
        return grant(told.road[road].airAlong(way, told.rain[hour]));
    }

    public int held(int walker, int road, int way, int hour, int speed) {
        if (refusedBy(legTrouble(walker, road, way, hour, speed))) {
            return NONE;
        }
        if (told.walker[walker].kind != SHIELD) {
            return WITHOUT;
        }
        leg.lay(told.road[road], way, told.rain[hour], speed);
        return leg.isForward(told.walker[walker]) ? 1 : 0;
    }

    public int best(int walker, int road, int way, int hour) {
        if (refusedBy(tripTrouble(walker, road, way, hour))) {
            return NONE;
        }
        return leg.bestSpeed(told.walker[walker], told.road[road], way, told.rain[hour]);
    }

    public long saves(int walker, int road, int way, int hour, boolean lower) {
        if (refusedBy(tripTrouble(walker, road, way, hour))) {
            return NONE;
        }
        Walker who = told.walker[walker];
        long slow = leg.wetOf(who, told.road[road], way, told.rain[hour], who.slowest);
        return fraction(slow - leg.leastWet(who, told.road[road], way, told.rain[hour]), PARTS, lower);
    }

    public int worst(int walker, int road, int way, int hour) {
        if (refusedBy(tripTrouble(walker, road, way, hour))) {
            return NONE;
        }
        return leg.worstSpeed(told.walker[walker], told.road[road], way, told.rain[hour]);
    }

    public int even(int walker, int road, int way, int hour) {
        if (refusedBy(tripTrouble(walker, road, way, hour))) {
            return NONE;
        }
        Walker who = told.walker[walker];
        int most = leg.worstSpeed(who, told.road[road], way, told.rain[hour]);
        long least = leg.leastWet(who, told.road[road], way, told.rain[hour]);
        return leg.wetOf(who, told.road[road], way, told.rain[hour], most) == least ? 1 : 0;
    }

    public long round(int walker, int road, int hour, boolean lower) {
        if (refusedBy(tripTrouble(walker, road, 0, hour))) {
            return NONE;
        }
        long out = leg.leastWet(told.walker[walker], told.road[road], 0, told.rain[hour]);
        long home = leg.leastWet(told.walker[walker], told.road[road], 1, told.rain[hour]);
        return fraction(out + home, PARTS, lower);
    }

    public int driest(int walker, int road, int way) {
        if (!told.hasWalker(walker) || !told.hasRoad(road) || !isWay(way)) {
            return refuse(NONE_SUCH);
        }
        if (told.hours == 0) {
            return refuse(THERE_IS_NONE);
        }
        int driestHour = 0;
        long least = ENDLESS;
        for (int hour = 0; hour < told.hours; hour++) {
            Rain rain = told.rain[hour];
            long likely = leg.leastWet(told.walker[walker], told.road[road], way, rain) * rain.chance;
            if (likely < least) {
                least = likely;
                driestHour = hour;
            }
        }
        return grant(driestHour);
    }

    public long lee(int ahead, int behind, int road, int way, int hour, int speed, boolean lower) {
        if (refusedBy(leeTrouble(ahead, behind, road, way, hour, speed))) {
            return NONE;
        }
        leg.lay(told.road[road], way, told.rain[hour], speed);
        return fraction(leg.wetInLee(told.walker[ahead], told.walker[behind]), PARTS, lower);
    }

    public int first(int walker, int other, int road, int way, int hour, int speed) {
        if (refusedBy(leeTrouble(walker, other, road, way, hour, speed))) {
            return NONE;
        }
        leg.lay(told.road[road], way, told.rain[hour], speed);
        long walkerAhead = leg.wetInLee(told.walker[walker], told.walker[other]);
        long otherAhead = leg.wetInLee(told.walker[other], told.walker[walker]);
        if (walkerAhead == otherAhead) {
            return WITHOUT;
        }
        return walkerAhead < otherAhead ? 0 : 1;
    }

    private int tripTrouble(int walker, int road, int way, int hour) {
        boolean such = told.hasWalker(walker) && told.hasRoad(road) && isWay(way) && told.hasHour(hour);
        return such ? REFUSED_NOT : NONE_SUCH;
    }

    private int legTrouble(int walker, int road, int way, int hour, int speed) {
        int number = tripTrouble(walker, road, way, hour);
        if (number != REFUSED_NOT) {
            return number;
        }
        return told.walker[walker].canGo(speed) ? REFUSED_NOT : BAD_NUMBER;
    }

    private int leeTrouble(int ahead, int behind, int road, int way, int hour, int speed) {
        if (ahead == behind || !told.hasWalker(ahead) || !told.hasWalker(behind)) {
            return NONE_SUCH;
        }
        int number = legTrouble(ahead, road, way, hour, speed);
        if (number != REFUSED_NOT) {
            return number;
        }
        return told.walker[behind].canGo(speed) ? REFUSED_NOT : BAD_NUMBER;
    }

    private static boolean isWay(int way) {
        return way == 0 || way == 1;
    }

    private static boolean isFace(int face) {
        return face >= 0 && face < FACES;
    }

    private static long fraction(long up, long down, boolean lower) {
        long divisor = commonDivisor(up, down);
        if (divisor <= 0) {
            return lower ? 1 : 0;
        }
        return (lower ? down : up) / divisor;
    }

    private static long commonDivisor(long up, long down) {
        long a = up;
        long b = down;
        for (int i = 0; i < 200 && b != 0; i++) {
            long rest = a % b;
            a = b;
            b = rest;
        }
        return a;
    }

    // ---- ways

    public long least(int walker, int from, int to, int start, int till, boolean lower) {
        if (refusedBy(wayTrouble(walker, from, to, start, till))) {
            return NONE;
        }
        return fraction(ways.meanFrom(from, start), PARTS * PERCENT, lower);
    }

    public int there(int walker, int from, int to, int start, int till) {
        if (refusedBy(wayTrouble(walker, from, to, start, till))) {
            return NONE;
        }
        return ways.endFrom(from, start);
    }

    public int steps(int walker, int from, int to, int start, int till) {
        if (refusedBy(wayTrouble(walker, from, to, start, till))) {
            return NONE;
        }
        return ways.trace(told, from, start);
    }

    public int step(int walker, int from, int to, int start, int till, int i) {
        if (refusedBy(wayTrouble(walker, from, to, start, till))) {
            return NONE;
        }
        int count = ways.trace(told, from, start);
        if (i < 0 || i >= count || i >= ways.route.length) {
            return refuse(NONE_SUCH);
        }
        return ways.route[i];
    }

    public int off(int walker, int from, int to, int till) {
        int number = placesTrouble(walker, from, to);
        if (number == REFUSED_NOT && !isTill(till)) {
            number = BAD_NUMBER;
        }
        if (refusedBy(number)) {
            return NONE;
        }
        ways.reckon(told, leg, walker, to, till, 0);
        int bestStart = NONE;
        for (int start = 0; start <= till; start++) {
            boolean better = bestStart == NONE || ways.meanFrom(from, start) < ways.meanFrom(from, bestStart);
            if (ways.isOpen(from, start) && better) {
                bestStart = start;
            }
        }
        return bestStart == NONE ? refuse(THERE_IS_NONE) : bestStart;
    }

    private int placesTrouble(int walker, int from, int to) {
        boolean such = told.hasWalker(walker) && told.hasPlace(from) && told.hasPlace(to);
        return such ? REFUSED_NOT : NONE_SUCH;
    }

    private static boolean isTill(int till) {
        return till >= 0 && till <= LAST_TILL;
    }

    /** Reckons the ways asked for, too, since only then it is known whether there is one. */
    private int wayTrouble(int walker, int from, int to, int start, int till) {
        int number = placesTrouble(walker, from, to);
        if (number != REFUSED_NOT) {
            return number;
        }
        if (!isTill(till) || start < 0 || start > till) {
            return BAD_NUMBER;
        }
        ways.reckon(told, leg, walker, to, till, start);
        return ways.isOpen(from, start) ? REFUSED_NOT : THERE_IS_NONE;
    }

    // ---- what was seen

    public int fits(int seen) {
        if (!told.hasSeen(seen)) {
            return refuse(NONE_SUCH);
        }
        return grant(leg.countFits(told, seen));
    }

    public int fit(int seen, int i) {
        if (!told.hasSeen(seen) || i < 0) {
            return refuse(NONE_SUCH);
        }
        int code = leg.findFit(told, seen, i);
        return code == NONE ? refuse(NONE_SUCH) : grant(code);
    }

    public int lies() {
        if (!told.isTold()) {
            return refuse(NONE_SUCH);
        }
        int bits = 0;
        for (int seen = 0; seen < told.seens; seen++) {
            if (leg.findFit(told, seen, 0) == NONE) {
                bits |= 1 << seen;
            }
        }
        return grant(bits);
    }

    // ---- a day

    public int day(int walker, int place, int minute, int seed) {
        if (!told.hasWalker(walker) || !told.hasPlace(place)) {
            return refuse(NONE_SUCH);
        }
        if (minute < 0 || minute > LAST_TILL || seed < 0 || seed >= SEED_MODULUS) {
            return refuse(BAD_NUMBER);
        }
        today.begin(walker, place, minute);
        today.draw(told, seed);
        return grant(today.rainBits);
    }

    public int go(int road, int way, int speed) {
        if (!today.isOn() || !told.hasWalker(today.walker) || !told.hasRoad(road) || !isWay(way)) {
            return refuse(NONE_SUCH);
        }
        Walker who = told.walker[today.walker];
        Road along = told.road[road];
        if (!who.canGo(speed)) {
            return refuse(BAD_NUMBER);
        }
        if (along.startOf(way) != today.now.place) {
            return refuse(NOT_SO);
        }
        int end = today.now.minute + along.minutesAt(speed);
        if (end > LAST_MINUTE) {
            return refuse(NO_ROOM);
        }
        today.keepForUndo();
        int hour = told.hourOf(today.now.minute);
        if (told.hasHour(hour) && today.rainsIn(hour)) {
            leg.wetOf(who, along, way, told.rain[hour], speed);
            today.now.addFaces(leg.faces);
        }
        today.now.place = along.endOf(way);
        today.now.minute = end;
        return grant(end);
    }

    public boolean stay(int n) {
        if (refusedBy(stayTrouble(n))) {
            return false;
        }
        today.keepForUndo();
        long drip = told.dripOn(told.walker[today.walker], today.now.place);
        for (int i = 0; i < n; i++) {
            if (today.rainsIn(told.hourOf(today.now.minute))) {
                today.now.got[TOP] += drip * PARTS;
            }
            today.now.minute++;
        }
        return true;
    }

    private int stayTrouble(int n) {
        if (!today.isOn() || !told.hasWalker(today.walker)) {
            return NONE_SUCH;
        }
        if (n < 1 || n > LONGEST_STAY) {
            return BAD_NUMBER;
        }
        if (!told.canWait(today.now.place)) {
            return NOT_SO;
        }
        return today.now.minute + n > LAST_MINUTE ? NO_ROOM : REFUSED_NOT;
    }

    public long got(int face, boolean lower) {
        if (!today.isOn() || !isFace(face)) {
            return refuse(NONE_SUCH);
        }
        refusal = REFUSED_NOT;
        return fraction(today.now.got[face], PARTS, lower);
    }

    public long wetness(boolean lower) {
        if (!today.isOn() || !told.hasWalker(today.walker)) {
            return refuse(NONE_SUCH);
        }
        refusal = REFUSED_NOT;
        long through = today.now.allGot() - coatParts(told.walker[today.walker]);
        return fraction(Math.max(through, 0), PARTS, lower);
    }

    public int soaked() {
        if (!today.isOn() || !told.hasWalker(today.walker)) {
            return refuse(NONE_SUCH);
        }
        Walker who = told.walker[today.walker];
        if (who.kind != COAT) {
            return grant(WITHOUT);
        }
        return grant(today.now.allGot() > coatParts(who) ? 1 : 0);
    }

    private static long coatParts(Walker who) {
        return who.kind == COAT ? (long) who.amount * PARTS : 0;
    }

    public boolean undo() {
        return !refusedBy(today.takeBack() ? REFUSED_NOT : THERE_IS_NONE);
    }

    public int mark() {
        if (!today.isOn()) {
            return refuse(NONE_SUCH);
        }
        int number = today.setMark();
        return number == NONE ? refuse(NO_ROOM) : grant(number);
    }

    public boolean back(int mark) {
        return !refusedBy(today.returnTo(mark) ? REFUSED_NOT : NONE_SUCH);
    }

    // ---- what is told

    public int walker(int w, int what) {
        if (!told.hasWalker(w) || what < 0 || what > 6) {
            return refuse(NONE_SUCH);
        }
        return grant(told.walker[w].tell(what));
    }

    public int road(int r, int what) {
        if (!told.hasRoad(r) || what < 0 || what > 4) {
            return refuse(NONE_SUCH);
        }
        return grant(told.road[r].tell(what));
    }

    public int led(int i) throws NoSuchElementException {
        int count = 0;
        for (int r = 0; r < told.roads && today.isOn(); r++) {
            if (told.road[r].touches(today.now.place)) {
                if (count == i) {
                    return r;
                }
                count++;
            }
        }
        throw new NoSuchElementException();
    }

    public int size(int what) {
        switch (what) {
            case 0: return told.hourMinutes;
            case 1: return told.hours;
            case 2: return told.places;
            case 3: return told.roads;
            case 4: return told.walkers;
            case 5: return told.seens;
            case 6: return today.isOn() ? today.walker : WITHOUT;
            case 7: return today.isOn() ? today.now.place : WITHOUT;
            case 8: return today.isOn() ? today.now.minute : 0;
            case 9: return today.undoable;
            case 10: return today.marked;
            case 11: return taped;
            default: return NONE;
        }
    }

    public int trouble() {
        return refusal;
    }

    /** An hour of rain. */
    private static final class Rain {
        int drops;
        int down;
        int windSide;
        int wind;
        int chance;
    }

    private static final class Road {
        int begin;
        int end;
        int side;
        int length;
        int awning;

        int startOf(int way) {
            return way == 0 ? begin : end;
        }

        int endOf(int way) {
            return way == 0 ? end : begin;
        }

        boolean touches(int place) {
            return begin == place || end == place;
        }

        int minutesAt(int speed) {
            return speed > 0 ? (length + speed - 1) / speed : 0;
        }

        /** Quarter turns to the right from where he goes to where the wind blows. */
        int turnOf(int way, Rain rain) {
            int heading = way == 0 ? side : side + 2;
            return (rain.windSide - heading) & 3;
        }

        int airAlong(int way, Rain rain) {
            int turn = turnOf(way, rain);
            if (turn == 0) {
                return rain.wind;
            }
            return turn == 2 ? -rain.wind : 0;
        }

        int tell(int what) {
            switch (what) {
                case 0: return begin;
                case 1: return end;
                case 2: return side;
                case 3: return length;
                default: return awning;
            }
        }
    }

    private static final class Walker {
        int kind;
        int amount;
        int top;
        int front;
        int side;
        int slowest;
        int fastest;

        void shape(int broad, int deep, int high) {
            int bow = kind == BENT ? amount : 0;
            top = broad * (deep + bow);
            front = broad * (high - bow);
            side = (deep + bow) * (high - bow);
        }

        boolean canGo(int speed) {
            return speed >= slowest && speed <= fastest && speed >= 1 && speed <= FASTEST;
        }

        int shield() {
            return kind == SHIELD ? amount : 0;
        }

        int tell(int what) {
            switch (what) {
                case 0: return kind;
                case 1: return amount;
                case 2: return top;
                case 3: return front;
                case 4: return side;
                case 5: return slowest;
                default: return fastest;
            }
        }
    }

    /** All that a text tells. */
    private static final class World {
        int hourMinutes;
        int hours;
        int places;
        int roads;
        int walkers;
        int seens;
        final Rain[] rain = new Rain[HOUR_ROOM];
        /** What drips on a top in a minute there: 0 in an inn; NO_WAITING where nobody waits. */
        final int[] drip = new int[PLACE_ROOM];
        final Road[] road = new Road[ROAD_ROOM];
        final Walker[] walker = new Walker[WALKER_ROOM];
        final int[] seenWalker = new int[SEEN_ROOM];
        final int[] seenFaces = new int[SEEN_ROOM * FACES];

        World() {
            for (int i = 0; i < rain.length; i++) {
                rain[i] = new Rain();
            }
            for (int i = 0; i < road.length; i++) {
                road[i] = new Road();
            }
            for (int i = 0; i < walker.length; i++) {
                walker[i] = new Walker();
            }
        }

        void clear() {
            hourMinutes = 0;
            hours = 0;
            places = 0;
            roads = 0;
            walkers = 0;
            seens = 0;
        }

        boolean isTold() {
            return hourMinutes > 0;
        }

        boolean hasHour(int i) {
            return i >= 0 && i < hours && i < rain.length;
        }

        boolean hasPlace(int i) {
            return i >= 0 && i < places && i < drip.length;
        }

        boolean hasRoad(int i) {
            return i >= 0 && i < roads && i < road.length;
        }

        boolean hasWalker(int i) {
            return i >= 0 && i < walkers && i < walker.length;
        }

        boolean hasSeen(int i) {
            return i >= 0 && i < seens && i < seenWalker.length;
        }

        int hourOf(int minute) {
            return hourMinutes > 0 ? minute / hourMinutes : 0;
        }

        boolean canWait(int place) {
            return hasPlace(place) && drip[place] != NO_WAITING;
        }

        /** What he gets in a minute of waiting there, if it rains. */
        int dripOn(Walker who, int place) {
            return canWait(place) ? drip[place] * Math.max(who.top - who.shield(), 0) : 0;
        }
    }

    /** Reads a text into a world, or finds its first fault. */
    private static final class Reader {
        private static final int END = 0;
        private static final int WORD = 1;
        private static final int WHOLE = 2;
        private static final int SEMICOLON = 3;
        private static final int COMMA = 4;
        private static final int BLANK = 5;
        private static final int BROKEN = 6;

        private static final int LONGEST_WORD = 8;
        private static final int LONGEST_WHOLE = 3;
        private static final int NAME_ROOM = PLACE_ROOM + WALKER_ROOM;

        private static final int FORM = 1;
        private static final int UNKNOWN = 2;
        private static final int AGAIN = 3;
        private static final int BOUNDS = 4;
        private static final int MANY = 5;
        private static final int LACKS = 6;

        int fault;
        int faultAt;
        private byte[] text = new byte[0];
        private int length;
        private int at;
        /** Not the one that is told, so that a fault leaves that as it was. */
        private World world = new World();
        private int sort;
        private int start;
        /** A word by its letters, in base 32, or a whole. */
        private long token;
        /** What the part read last told: a whole, a side, or the number of a place or walker. */
        private int value;
        private int names;
        private final long[] name = new long[NAME_ROOM];
        /** Places stand as their numbers, walkers behind PLACE_ROOM. */
        private final int[] named = new int[NAME_ROOM];

        /** Hands out the world that was read, and reads the next into the former one. */
        World exchange(World former) {
            World done = world;
            world = former;
            return done;
        }

        boolean read(byte[] bytes, int n) {
            open(bytes, n);
            for (int lines = 0; lines <= TAPE_ROOM; lines++) {
                boolean fine;
                if (is("world")) {
                    fine = worldLine();
                } else if (is("rain")) {
                    fine = hasRoom(world.hours, HOUR_ROOM) && rainLine();
                } else if (is("place")) {
                    fine = hasRoom(world.places, PLACE_ROOM) && placeLine();
                } else if (is("road")) {
                    fine = hasRoom(world.roads, ROAD_ROOM) && roadLine();
                } else if (is("walker")) {
                    fine = hasRoom(world.walkers, WALKER_ROOM) && walkerLine();
                } else if (is("seen")) {
                    fine = hasRoom(world.seens, SEEN_ROOM) && seenLine();
                } else {
                    fine = fail(FORM);
                }
                if (fine && sort == END) {
                    return world.places > 0 && world.walkers > 0 || fail(LACKS);
                }
                if (!fine || !sign(SEMICOLON)) {
                    return false;
                }
            }
            return fail(FORM);
        }

        private void open(byte[] bytes, int n) {
            text = bytes;
            length = Math.min(n, bytes.length);
            at = 0;
            fault = 0;
            faultAt = 0;
            names = 0;
            world.clear();
            next();
        }

        private boolean fail(int number) {
            fault = number;
            faultAt = start;
            return false;
        }

        // ---- tokens

        /** Letters or digits that stand together are all one token, and too many of them none. */
        private void next() {
            for (int i = 0; i < TAPE_ROOM && sortAt(at) == BLANK; i++) {
                at++;
            }
            start = at;
            sort = sortAt(at);
            token = 0;
            boolean runs = sort == WORD || sort == WHOLE;
            int longest = sort == WORD ? LONGEST_WORD : LONGEST_WHOLE;
            int base = sort == WORD ? 32 : 10;
            for (int i = 0; runs && i < TAPE_ROOM && sortAt(at) == sort; i++) {
                if (i < longest && at < text.length) {
                    token = token * base + (text[at] & (sort == WORD ? 31 : 15));
                }
                at++;
            }
            if (runs && at - start > longest) {
                sort = BROKEN;
            }
            if (!runs && sort != END) {
                at++;
            }
        }

        private int sortAt(int i) {
            if (i < 0 || i >= length || i >= text.length) {
                return END;
            }
            byte b = text[i];
            if (b >= 'a' && b <= 'z') {
                return WORD;
            }
            if (b >= '0' && b <= '9') {
                return WHOLE;
            }
            switch (b) {
                case ' ': return BLANK;
                case ';': return SEMICOLON;
                case ',': return COMMA;
                default: return BROKEN;
            }
        }

        private boolean is(String word) {
            if (sort != WORD) {
                return false;
            }
            long code = 0;
            for (int i = 0; i < word.length(); i++) {
                code = code * 32 + (word.charAt(i) & 31);
            }
            return token == code;
        }

        // ---- parts of lines

        private boolean word(String due) {
            if (!is(due)) {
                return fail(FORM);
            }
            next();
            return true;
        }

        private boolean sign(int due) {
            if (sort != due) {
                return fail(FORM);
            }
            next();
            return true;
        }

        private boolean whole(int least, int most) {
            if (sort != WHOLE) {
                return fail(FORM);
            }
            if (token < least || token > most) {
                return fail(BOUNDS);
            }
            value = (int) token;
            next();
            return true;
        }

        private boolean wordAndWhole(String due, int least, int most) {
            return word(due) && whole(least, most);
        }

        private boolean side() {
            if (is("north")) {
                value = 0;
            } else if (is("east")) {
                value = 1;
            } else if (is("south")) {
                value = 2;
            } else if (is("west")) {
                value = 3;
            } else {
                return fail(FORM);
            }
            next();
            return true;
        }

        private boolean canBeName() {
            boolean kept = is("world") || is("rain") || is("place") || is("road") || is("walker")
                || is("seen") || is("inn") || is("tree") || is("awning");
            return sort == WORD && !kept;
        }

        private int findName() {
            for (int i = 0; i < names && i < NAME_ROOM; i++) {
                if (name[i] == token) {
                    return named[i];
                }
            }
            return NONE;
        }

        private boolean newName(int number) {
            if (!canBeName()) {
                return fail(FORM);
            }
            if (findName() != NONE) {
                return fail(AGAIN);
            }
            if (names < NAME_ROOM) {
                name[names] = token;
                named[names] = number;
                names++;
            }
            next();
            return true;
        }

        private boolean placeBut(int other) {
            if (!canBeName()) {
                return fail(FORM);
            }
            int number = findName();
            if (number == NONE || number >= PLACE_ROOM) {
                return fail(UNKNOWN);
            }
            if (number == other) {
                return fail(AGAIN);
            }
            value = number;
            next();
            return true;
        }

        private boolean someWalker() {
            if (!canBeName()) {
                return fail(FORM);
            }
            int number = findName();
            if (number < PLACE_ROOM) {
                return fail(UNKNOWN);
            }
            value = number - PLACE_ROOM;
            next();
            return true;
        }

        // ---- lines

        private boolean hasRoom(int count, int room) {
            if (!world.isTold()) {
                return fail(LACKS);
            }
            if (count >= room) {
                return fail(MANY);
            }
            next();
            return true;
        }

        private boolean worldLine() {
            if (world.isTold()) {
                return fail(AGAIN);
            }
            next();
            if (!wordAndWhole("hour", 5, 60)) {
                return false;
            }
            world.hourMinutes = value;
            return true;
        }

        private boolean rainLine() {
            Rain rain = world.rain[world.hours];
            if (!wordAndWhole("drops", 0, 9)) {
                return false;
            }
            rain.drops = value;
            if (!wordAndWhole("down", 1, 9)) {
                return false;
            }
            rain.down = value;
            if (!word("wind") || !side()) {
                return false;
            }
            rain.windSide = value;
            if (!whole(0, 9)) {
                return false;
            }
            rain.wind = value;
            if (!wordAndWhole("chance", 0, 100)) {
                return false;
            }
            rain.chance = value;
            world.hours++;
            return true;
        }

        private boolean placeLine() {
            if (!newName(world.places)) {
                return false;
            }
            int drip = NO_WAITING;
            if (is("inn")) {
                drip = 0;
                next();
            } else if (is("tree")) {
                if (!wordAndWhole("tree", 0, 9)) {
                    return false;
                }
                drip = value;
            }
            world.drip[world.places] = drip;
            world.places++;
            return true;
        }

        private boolean roadLine() {
            Road road = world.road[world.roads];
            if (!placeBut(NONE)) {
                return false;
            }
            road.begin = value;
            if (!side()) {
                return false;
            }
            road.side = value;
            if (!whole(1, 60)) {
                return false;
            }
            road.length = value;
            if (!placeBut(road.begin)) {
                return false;
            }
            road.end = value;
            road.awning = 0;
            if (is("awning")) {
                if (!wordAndWhole("awning", 0, road.length)) {
                    return false;
                }
                road.awning = value;
            }
            world.roads++;
            return true;
        }

        private boolean walkerLine() {
            Walker walker = world.walker[world.walkers];
            if (!newName(PLACE_ROOM + world.walkers) || !kindOf(walker) || !bodyOf(walker)) {
                return false;
            }
            if (!wordAndWhole("from", 1, FASTEST)) {
                return false;
            }
            walker.slowest = value;
            if (!wordAndWhole("to", walker.slowest, FASTEST)) {
                return false;
            }
            walker.fastest = value;
            world.walkers++;
            return true;
        }

        private boolean kindOf(Walker walker) {
            boolean fine;
            value = 0;
            if (is("bent")) {
                walker.kind = BENT;
                fine = wordAndWhole("bent", 1, 8);
            } else if (is("coat")) {
                walker.kind = COAT;
                fine = wordAndWhole("coat", 0, 999);
            } else if (is("shield")) {
                walker.kind = SHIELD;
                fine = wordAndWhole("shield", 1, 99);
            } else {
                walker.kind = 0;
                fine = word("plain");
            }
            walker.amount = value;
            return fine;
        }

        private boolean bodyOf(Walker walker) {
            if (!wordAndWhole("broad", 1, 9)) {
                return false;
            }
            int broad = value;
            if (!wordAndWhole("deep", 1, 9)) {
                return false;
            }
            int deep = value;
            int leastHigh = walker.kind == BENT ? walker.amount + 1 : 1;
            if (!wordAndWhole("high", leastHigh, 9)) {
                return false;
            }
            walker.shape(broad, deep, value);
            return true;
        }

        private boolean seenLine() {
            if (!someWalker()) {
                return false;
            }
            world.seenWalker[world.seens] = value;
            for (int face = 0; face < FACES; face++) {
                if (face > 0 && !sign(COMMA) || !whole(0, 999)) {
                    return false;
                }
                world.seenFaces[world.seens * FACES + face] = value;
            }
            world.seens++;
            return true;
        }
    }

    /** A leg that is laid, and what the faces of a walker get on it, in parts. */
    private static final class Leg {
        final long[] faces = new long[FACES];
        /** For each unit of a face: what it gets in the whole leg. */
        private final long[] strength = new long[FACES];

        void lay(Road road, int way, Rain rain, int speed) {
            long time = speed > 0 ? (long) (road.length - road.awning) * (PARTS / speed) : 0;
            long fall = rain.drops * time;
            int turn = road.turnOf(way, rain);
            int air = road.airAlong(way, rain);
            strength[TOP] = fall * rain.down;
            strength[FRONT] = fall * Math.max(speed - air, 0);
            strength[BACK] = fall * Math.max(air - speed, 0);
            strength[LEFT] = turn == 1 ? fall * rain.wind : 0;
            strength[RIGHT] = turn == 3 ? fall * rain.wind : 0;
        }

        boolean isForward(Walker who) {
            long offTop = strength[TOP] * Math.min(who.shield(), who.top);
            long offFront = strength[FRONT] * Math.min(who.shield(), who.front);
            return offFront > offTop;
        }

        long wetOf(Walker who, Road road, int way, Rain rain, int speed) {
            lay(road, way, rain, speed);
            return soak(who, 0, 0);
        }

        long wetInLee(Walker ahead, Walker behind) {
            return soak(ahead, 0, behind.front) + soak(behind, ahead.front, 0);
        }

        private long soak(Walker who, int offFront, int offBack) {
            boolean forward = isForward(who);
            int overHead = forward ? 0 : who.shield();
            int before = forward ? who.shield() : 0;
            faces[TOP] = strength[TOP] * Math.max(who.top - overHead, 0);
            faces[FRONT] = strength[FRONT] * Math.max(who.front - before - offFront, 0);
            faces[BACK] = strength[BACK] * Math.max(who.front - offBack, 0);
            faces[LEFT] = strength[LEFT] * who.side;
            faces[RIGHT] = strength[RIGHT] * who.side;
            return faces[TOP] + faces[FRONT] + faces[BACK] + faces[LEFT] + faces[RIGHT];
        }

        int bestSpeed(Walker who, Road road, int way, Rain rain) {
            int found = who.slowest;
            long least = ENDLESS;
            for (int speed = who.slowest; speed <= who.fastest; speed++) {
                long all = wetOf(who, road, way, rain, speed);
                if (all < least) {
                    least = all;
                    found = speed;
                }
            }
            return found;
        }

        int worstSpeed(Walker who, Road road, int way, Rain rain) {
            int found = who.slowest;
            long most = -1;
            for (int speed = who.slowest; speed <= who.fastest; speed++) {
                long all = wetOf(who, road, way, rain, speed);
                if (all > most) {
                    most = all;
                    found = speed;
                }
            }
            return found;
        }

        long leastWet(Walker who, Road road, int way, Rain rain) {
            return wetOf(who, road, way, rain, bestSpeed(who, road, way, rain));
        }

        int countFits(World world, int seen) {
            int count = 0;
            for (int i = 0; i < legsOf(world); i++) {
                if (fitCode(world, seen, i) != NONE) {
                    count++;
                }
            }
            return count;
        }

        int findFit(World world, int seen, int number) {
            int left = number;
            for (int i = 0; i < legsOf(world); i++) {
                int code = fitCode(world, seen, i);
                if (code != NONE && left == 0) {
                    return code;
                }
                if (code != NONE) {
                    left--;
                }
            }
            return NONE;
        }

        /** Legs at all speeds that a walker may have, by roads, ways, hours, speeds. */
        private static int legsOf(World world) {
            return world.roads * 2 * world.hours * FASTEST;
        }

        /** How a leg is told, if what was seen comes by it; NONE else. */
        private int fitCode(World world, int seen, int number) {
            if (number < 0 || number >= legsOf(world) || !world.hasSeen(seen) || world.hours <= 0) {
                return NONE;
            }
            int speed = number % FASTEST + 1;
            int hour = number / FASTEST % world.hours;
            int trip = number / FASTEST / world.hours;
            int walker = world.seenWalker[seen];
            if (!world.hasWalker(walker) || !world.hasRoad(trip / 2) || !world.walker[walker].canGo(speed)) {
                return NONE;
            }
            wetOf(world.walker[walker], world.road[trip / 2], trip % 2, world.rain[hour], speed);
            for (int face = 0; face < FACES; face++) {
                if (faces[face] != (long) world.seenFaces[seen * FACES + face] * PARTS) {
                    return NONE;
                }
            }
            return 1000 * (trip / 2) + 100 * (trip % 2) + 10 * hour + speed;
        }
    }

    /** The least ways of one walker to one place by one minute, from every place and minute. */
    private static final class Ways {
        private static final int MINUTES = LAST_TILL + 1;
        private static final int MOVE_ROOM = ROAD_ROOM * 2 * FASTEST + PLACE_ROOM;
        private static final int WAIT = -2;
        private static final long CLOSED = ENDLESS;
        /** Above every minute: a key is the mean times this and the minute of being there, so keys compare as ways do. */
        private static final int KEY_MINUTES = 512;

        int[] route = new int[0];
        private long[] key = new long[0];
        private int[] choice = new int[0];
        private int moves;
        private int[] moveFrom = new int[0];
        private int[] moveTo = new int[0];
        private int[] moveMinutes = new int[0];
        private long[] moveCost = new long[0];
        private int[] moveCode = new int[0];
        private int pricedHour = NONE;
        private int walker = NONE;
        private int goal = NONE;
        private int till = NONE;
        /** The earliest minute that is reckoned. */
        private int reckoned;

        void forget() {
            walker = NONE;
        }

        /** Not in the constructor, since many objects are never asked for a way. */
        private void makeRows() {
            route = new int[MINUTES];
            key = new long[PLACE_ROOM * MINUTES];
            choice = new int[PLACE_ROOM * MINUTES];
            moveFrom = new int[MOVE_ROOM];
            moveTo = new int[MOVE_ROOM];
            moveMinutes = new int[MOVE_ROOM];
            moveCost = new long[MOVE_ROOM];
            moveCode = new int[MOVE_ROOM];
        }

        /** Later minutes come first, and those that an earlier call reckoned are kept. */
        void reckon(World world, Leg leg, int forWalker, int to, int by, int from) {
            if (key.length == 0) {
                makeRows();
            }
            if (forWalker != walker || to != goal || by != till) {
                walker = forWalker;
                goal = to;
                till = by;
                reckoned = by + 1;
                pricedHour = NONE;
            }
            for (int minute = reckoned - 1; minute >= from && minute >= 0; minute--) {
                int hour = Math.min(world.hourOf(minute), world.hours);
                if (hour != pricedHour) {
                    price(world, leg, hour);
                }
                reckonMinute(world.places, minute);
                reckoned = minute;
            }
        }

        /** Finds the moves of an hour, in the order in which those alike are taken; behind the last hour told it is dry. */
        private void price(World world, Leg leg, int hour) {
            pricedHour = hour;
            moves = 0;
            if (!world.hasWalker(walker)) {
                return;
            }
            Walker who = world.walker[walker];
            boolean dry = !world.hasHour(hour);
            for (int trip = 0; trip < 2 * world.roads; trip++) {
                Road road = world.road[trip / 2];
                int way = trip % 2;
                for (int speed = who.slowest; speed <= who.fastest; speed++) {
                    long cost = dry ? 0 : leg.wetOf(who, road, way, world.rain[hour], speed) * world.rain[hour].chance;
                    addLeg(road, way, speed, cost, 100 * (trip / 2) + 10 * way + speed);
                }
            }
            for (int place = 0; place < world.places; place++) {
                if (world.canWait(place)) {
                    long cost = dry ? 0 : (long) world.dripOn(who, place) * PARTS * world.rain[hour].chance;
                    addMove(place, place, 1, cost, WAIT);
                }
            }
        }

        /** Of speeds that take as long only the best is a move, since they lead to the same. */
        private void addLeg(Road road, int way, int speed, long cost, int code) {
            int minutes = road.minutesAt(speed);
            int last = moves - 1;
            if (last >= 0 && last < MOVE_ROOM && moveCode[last] / 10 == code / 10 && moveMinutes[last] == minutes) {
                if (moveCost[last] <= cost * KEY_MINUTES) {
                    return;
                }
                moves = last;
            }
            addMove(road.startOf(way), road.endOf(way), minutes, cost, code);
        }

        /** At the goal no step is better than none, since each takes time. */
        private void addMove(int from, int to, int minutes, long cost, int code) {
            if (from == goal || moves < 0 || moves >= MOVE_ROOM) {
                return;
            }
            moveFrom[moves] = from * MINUTES;
            moveTo[moves] = to * MINUTES + minutes;
            moveMinutes[moves] = minutes;
            moveCost[moves] = cost * KEY_MINUTES;
            moveCode[moves] = code;
            moves++;
        }

        /** Moves that are alike stand in the order in which they are taken: only a better one replaces another. */
        private void reckonMinute(int places, int minute) {
            for (int place = 0; place < places && place < PLACE_ROOM; place++) {
                key[place * MINUTES + minute] = place == goal ? minute : CLOSED;
                choice[place * MINUTES + minute] = NONE;
            }
            for (int move = 0; move < moves && move < MOVE_ROOM; move++) {
                int here = moveFrom[move] + minute;
                int next = moveTo[move] + minute;
                boolean inTime = moveMinutes[move] <= till - minute;
                if (inTime && here >= 0 && here < key.length && next >= 0 && next < key.length && key[next] != CLOSED) {
                    long all = moveCost[move] + key[next];
                    if (all < key[here]) {
                        key[here] = all;
                        choice[here] = moveCode[move];
                    }
                }
            }
        }

        private long keyOf(int place, int minute) {
            int i = place * MINUTES + minute;
            return i >= 0 && i < key.length ? key[i] : CLOSED;
        }

        boolean isOpen(int place, int minute) {
            return keyOf(place, minute) != CLOSED;
        }

        long meanFrom(int place, int minute) {
            return keyOf(place, minute) / KEY_MINUTES;
        }

        int endFrom(int place, int minute) {
            return (int) (keyOf(place, minute) % KEY_MINUTES);
        }

        /** Writes the steps of the least way from there into the route: how many. */
        int trace(World world, int from, int start) {
            int place = from;
            int minute = start;
            for (int count = 0; count < route.length; count++) {
                int here = place * MINUTES + minute;
                int code = here >= 0 && here < choice.length ? choice[here] : NONE;
                if (code == NONE) {
                    return count;
                }
                route[count] = code;
                if (code == WAIT) {
                    minute++;
                } else if (world.hasRoad(code / 100)) {
                    Road road = world.road[code / 100];
                    place = road.endOf(code / 10 % 10);
                    minute += road.minutesAt(code % 10);
                }
            }
            return route.length;
        }
    }

    /** Where the walker of a day is, when, and what his faces got, in parts. */
    private static final class Moment {
        int place;
        int minute;
        final long[] got = new long[FACES];

        void copy(Moment other) {
            place = other.place;
            minute = other.minute;
            for (int face = 0; face < FACES; face++) {
                got[face] = other.got[face];
            }
        }

        void addFaces(long[] faces) {
            for (int face = 0; face < FACES && face < faces.length; face++) {
                got[face] += faces[face];
            }
        }

        long allGot() {
            long all = 0;
            for (int face = 0; face < FACES; face++) {
                all += got[face];
            }
            return all;
        }
    }

    private static final class Day {
        int walker = NONE;
        int rainBits;
        int undoable;
        int marked;
        final Moment now = new Moment();
        /** The latest act's moment stands last of those that can be undone. */
        private final Moment[] past = new Moment[UNDO_ROOM];
        private final Moment[] marks = new Moment[MARK_ROOM];

        Day() {
            for (int i = 0; i < past.length; i++) {
                past[i] = new Moment();
            }
            for (int i = 0; i < marks.length; i++) {
                marks[i] = new Moment();
            }
        }

        boolean isOn() {
            return walker != NONE;
        }

        void end() {
            walker = NONE;
            undoable = 0;
            marked = 0;
        }

        void begin(int who, int place, int minute) {
            end();
            walker = who;
            now.place = place;
            now.minute = minute;
            for (int face = 0; face < FACES; face++) {
                now.got[face] = 0;
            }
        }

        void draw(World world, int seed) {
            int drawn = seed;
            rainBits = 0;
            for (int hour = 0; hour < world.hours; hour++) {
                drawn = (75 * drawn + 74) % SEED_MODULUS;
                if (drawn % PERCENT < world.rain[hour].chance) {
                    rainBits |= 1 << hour;
                }
            }
        }

        boolean rainsIn(int hour) {
            return hour >= 0 && hour < HOUR_ROOM && (rainBits >> hour & 1) == 1;
        }

        void keepForUndo() {
            if (undoable >= UNDO_ROOM) {
                Moment oldest = past[0];
                for (int i = 1; i < UNDO_ROOM; i++) {
                    past[i - 1] = past[i];
                }
                past[UNDO_ROOM - 1] = oldest;
                undoable = UNDO_ROOM - 1;
            }
            past[undoable].copy(now);
            undoable++;
        }

        boolean takeBack() {
            if (undoable <= 0) {
                return false;
            }
            undoable--;
            now.copy(past[undoable]);
            return true;
        }

        int setMark() {
            if (marked >= MARK_ROOM) {
                return NONE;
            }
            marks[marked].copy(now);
            marked++;
            return marked - 1;
        }

        boolean returnTo(int number) {
            if (number < 0 || number >= marked) {
                return false;
            }
            now.copy(marks[number]);
            undoable = 0;
            return true;
        }
    }
}
