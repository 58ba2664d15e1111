import java.math.BigInteger;
import java.util.ArrayList;
import java.util.HashMap;
import java.util.List;
import java.util.Map;
import java.util.Random;

/** Random worlds, drawn from written seeds, reckoned once more in the slowest and plainest way and compared. */
public final class ModelTest {
    private static final String[] SIDES = {"north", "east", "south", "west"};
    private static final int[][] VECTORS = {{0, 1}, {1, 0}, {0, -1}, {-1, 0}};
    private static final Frac ZERO = new Frac(0, 1);

    private static final class Frac implements Comparable<Frac> {
        final BigInteger up;
        final BigInteger down;

        Frac(long up, long down) {
            this(BigInteger.valueOf(up), BigInteger.valueOf(down));
        }

        Frac(BigInteger up, BigInteger down) {
            BigInteger g = up.gcd(down);
            this.up = up.divide(g);
            this.down = down.divide(g);
        }

        Frac plus(Frac o) {
            return new Frac(up.multiply(o.down).add(o.up.multiply(down)), down.multiply(o.down));
        }

        Frac minus(Frac o) {
            return plus(new Frac(o.up.negate(), o.down));
        }

        Frac times(long upper, long lower) {
            return new Frac(up.multiply(BigInteger.valueOf(upper)), down.multiply(BigInteger.valueOf(lower)));
        }

        @Override
        public int compareTo(Frac o) {
            return up.multiply(o.down).compareTo(o.up.multiply(down));
        }
    }

    /** A way: its mean, when it ends, and its steps, each by the number that orders it. */
    private static final class Path {
        Frac mean = ZERO;
        int end;
        List<Integer> steps = new ArrayList<>();
    }

    private final Random random;
    private int hourMinutes;
    private int[][] rain;      // drops, down, side, wind, chance
    private int[] drip;        // -1 nobody waits
    private int[][] road;      // begin, end, side, length, awning
    private int[][] walker;    // kind, amount, broad, deep, high, slowest, fastest
    private int[][] seen;      // walker, five faces
    private String text;
    private RainWalk x;

    private ModelTest(long seed) {
        random = new Random(seed);
    }

    public static void main(String[] args) {
        for (int seed = 0; seed < 150; seed++) {
            ModelTest test = new ModelTest(seed);
            test.draw();
            if (test.text.length() <= 900) {
                test.legs();
                test.lees();
                test.seens();
                test.ways(seed % 4 == 0);
                test.day();
            }
        }
        Check.end("ModelTest");
    }

    private int from(int least, int most) {
        return least + random.nextInt(most - least + 1);
    }

    private void draw() {
        hourMinutes = from(0, 2) == 0 ? from(5, 60) : from(5, 8);
        rain = new int[from(0, 6)][];
        for (int i = 0; i < rain.length; i++) {
            rain[i] = new int[] {from(0, 9), from(1, 9), from(0, 3), from(0, 9), from(0, 3) == 0 ? 100 * from(0, 1) : from(0, 100)};
        }
        drip = new int[from(1, 8)];
        for (int i = 0; i < drip.length; i++) {
            drip[i] = from(0, 1) == 0 ? -1 : from(0, 1) * from(0, 9);
        }
        road = new int[drip.length < 2 ? 0 : from(0, 12)][];
        for (int i = 0; i < road.length; i++) {
            int begin = from(0, drip.length - 1);
            int end = (begin + from(1, drip.length - 1)) % drip.length;
            int length = from(0, 2) == 0 ? from(1, 60) : from(1, 12);
            road[i] = new int[] {begin, end, from(0, 3), length, from(0, 2) == 0 ? from(0, length) : 0};
        }
        walker = new int[from(1, 4)][];
        for (int i = 0; i < walker.length; i++) {
            int kind = from(0, 3);
            int amount = kind == 0 ? 0 : kind == 1 ? from(1, 8) : kind == 2 ? from(0, 999) : from(1, from(0, 1) == 0 ? 99 : 20);
            int slow = from(1, 9);
            walker[i] = new int[] {kind, amount, from(1, 9), from(1, 9), from(kind == 1 ? amount + 1 : 1, 9), slow, from(slow, 9)};
        }
        seen = new int[from(0, 4)][];
        for (int i = 0; i < seen.length; i++) {
            seen[i] = drawSeen();
        }
        text = write();
        x = text.length() <= 900 ? Check.of(text) : null;
    }

    /** Mostly what some leg brings, if that can be told. */
    private int[] drawSeen() {
        int[] row = {from(0, walker.length - 1), from(0, 1), from(0, 1), 0, 0, 0};
        if (rain.length == 0 || road.length == 0 || from(0, 3) == 0) {
            return row;
        }
        int w = row[0];
        Frac[] faces = faces(w, from(0, road.length - 1), from(0, 1), from(0, rain.length - 1), from(walker[w][5], walker[w][6]));
        int[] told = row.clone();
        for (int face = 0; face < 5; face++) {
            if (!faces[face].down.equals(BigInteger.ONE) || faces[face].up.intValue() > 999) {
                return row;
            }
            told[face + 1] = faces[face].up.intValue();
        }
        return told;
    }

    private String write() {
        StringBuilder all = new StringBuilder("world hour " + hourMinutes);
        for (int[] r : rain) {
            all.append(";rain drops " + r[0] + " down " + r[1] + " wind " + SIDES[r[2]] + " " + r[3] + " chance " + r[4]);
        }
        for (int i = 0; i < drip.length; i++) {
            all.append(";place p" + (char) ('a' + i));
            all.append(drip[i] < 0 ? "" : drip[i] == 0 && from(0, 1) == 0 ? " inn" : " tree " + drip[i]);
        }
        for (int[] r : road) {
            all.append(";road p" + (char) ('a' + r[0]) + " " + SIDES[r[2]] + " " + r[3] + " p" + (char) ('a' + r[1]));
            all.append(r[4] == 0 ? "" : " awning " + r[4]);
        }
        String[] kinds = {"plain", "bent ", "coat ", "shield "};
        for (int i = 0; i < walker.length; i++) {
            int[] w = walker[i];
            all.append(";walker w" + (char) ('a' + i) + " " + kinds[w[0]] + (w[0] == 0 ? "" : "" + w[1]));
            all.append(" broad " + w[2] + " deep " + w[3] + " high " + w[4] + " from " + w[5] + " to " + w[6]);
        }
        for (int[] s : seen) {
            all.append(";seen w" + (char) ('a' + s[0]) + " " + s[1] + "," + s[2] + "," + s[3] + "," + s[4] + "," + s[5]);
        }
        return all.toString();
    }

    private int deep(int w) {
        return walker[w][3] + (walker[w][0] == 1 ? walker[w][1] : 0);
    }

    private int high(int w) {
        return walker[w][4] - (walker[w][0] == 1 ? walker[w][1] : 0);
    }

    /** What faces get, the shield over the head or forward, front and back less by so much. */
    private Frac[] facesBy(int[] leg, int offTop, int offFront, int offBack) {
        int w = leg[0];
        int[] way = VECTORS[road[leg[1]][2]];
        int sign = leg[2] == 0 ? 1 : -1;
        int[] r = rain[leg[3]];
        int speed = leg[4];
        int windX = VECTORS[r[2]][0] * r[3];
        int windY = VECTORS[r[2]][1] * r[3];
        int air = sign * (windX * way[0] + windY * way[1]);
        int toRight = sign * (windX * way[1] - windY * way[0]);
        int broad = walker[w][2];
        long[] rates = {(long) r[1] * Math.max(0, broad * deep(w) - offTop),
            speed > air ? (long) (speed - air) * Math.max(0, broad * high(w) - offFront) : 0,
            air > speed ? (long) (air - speed) * Math.max(0, broad * high(w) - offBack) : 0,
            toRight > 0 ? (long) toRight * deep(w) * high(w) : 0,
            toRight < 0 ? (long) -toRight * deep(w) * high(w) : 0};
        Frac[] faces = new Frac[5];
        for (int face = 0; face < 5; face++) {
            faces[face] = new Frac(rates[face] * r[0] * (road[leg[1]][3] - road[leg[1]][4]), speed);
        }
        return faces;
    }

    private static Frac sum(Frac[] faces) {
        Frac all = ZERO;
        for (Frac face : faces) {
            all = all.plus(face);
        }
        return all;
    }

    private boolean forward(int[] leg) {
        int w = leg[0];
        int amount = walker[w][1];
        return walker[w][0] == 3 && sum(facesBy(leg, 0, amount, 0)).compareTo(sum(facesBy(leg, amount, 0, 0))) < 0;
    }

    private Frac[] faces(int... leg) {
        return sheltered(leg, 0, 0);
    }

    private Frac[] sheltered(int[] leg, int offFront, int offBack) {
        int amount = walker[leg[0]][0] == 3 ? walker[leg[0]][1] : 0;
        return forward(leg) ? facesBy(leg, 0, amount + offFront, offBack) : facesBy(leg, amount, offFront, offBack);
    }

    private Frac wetOf(int... leg) {
        return sum(faces(leg));
    }

    private void same(String call, long up, long down, Frac due) {
        Check.fraction(call + " in " + text, up, down, due.up.longValueExact(), due.down.longValueExact());
    }

    private void legs() {
        for (int i = 0; i < 30 && rain.length > 0 && road.length > 0; i++) {
            int w = from(0, walker.length - 1);
            int r = from(0, road.length - 1);
            int way = from(0, 1);
            int h = from(0, rain.length - 1);
            int speed = from(walker[w][5], walker[w][6]);
            String leg = "(" + w + "," + r + "," + way + "," + h + "," + speed + ")";
            Frac[] faces = faces(w, r, way, h, speed);
            for (int face = 0; face < 5; face++) {
                same("face" + face + leg, x.face(w, r, way, h, speed, face, false), x.face(w, r, way, h, speed, face, true), faces[face]);
            }
            Frac all = sum(faces);
            same("wet" + leg, x.wet(w, r, way, h, speed, false), x.wet(w, r, way, h, speed, true), all);
            same("mean" + leg, x.mean(w, r, way, h, speed, false), x.mean(w, r, way, h, speed, true), all.times(rain[h][4], 100));
            int held = walker[w][0] != 3 ? -2 : forward(new int[] {w, r, way, h, speed}) ? 1 : 0;
            Check.due("held" + leg + " in " + text, x.held(w, r, way, h, speed), held);
            Check.due("minutes" + leg, x.minutes(w, r, speed), (int) Math.ceil((double) road[r][3] / speed));
            speeds(w, r, way, h);
        }
    }

    private int bestOf(int w, int r, int way, int h) {
        int best = walker[w][5];
        for (int speed = best + 1; speed <= walker[w][6]; speed++) {
            best = wetOf(w, r, way, h, speed).compareTo(wetOf(w, r, way, h, best)) < 0 ? speed : best;
        }
        return best;
    }

    private Frac leastOf(int w, int r, int way, int h) {
        return wetOf(w, r, way, h, bestOf(w, r, way, h));
    }

    private void speeds(int w, int r, int way, int h) {
        String trip = "(" + w + "," + r + "," + way + "," + h + ") in " + text;
        int worst = walker[w][5];
        for (int speed = worst; speed <= walker[w][6]; speed++) {
            worst = wetOf(w, r, way, h, speed).compareTo(wetOf(w, r, way, h, worst)) > 0 ? speed : worst;
        }
        Frac least = leastOf(w, r, way, h);
        Check.due("best" + trip, x.best(w, r, way, h), bestOf(w, r, way, h));
        Check.due("worst" + trip, x.worst(w, r, way, h), worst);
        Check.due("even" + trip, x.even(w, r, way, h), wetOf(w, r, way, h, worst).compareTo(least) == 0 ? 1 : 0);
        same("saves" + trip, x.saves(w, r, way, h, false), x.saves(w, r, way, h, true),
            wetOf(w, r, way, h, walker[w][5]).minus(least));
        same("round" + trip, x.round(w, r, h, false), x.round(w, r, h, true), leastOf(w, r, 0, h).plus(leastOf(w, r, 1, h)));
        int driest = 0;
        for (int hour = 1; hour < rain.length; hour++) {
            Frac mean = leastOf(w, r, way, hour).times(rain[hour][4], 100);
            driest = mean.compareTo(leastOf(w, r, way, driest).times(rain[driest][4], 100)) < 0 ? hour : driest;
        }
        Check.due("driest" + trip, x.driest(w, r, way), driest);
    }

    private Frac together(int ahead, int behind, int r, int way, int h, int speed) {
        Frac one = sum(sheltered(new int[] {ahead, r, way, h, speed}, 0, walker[behind][2] * high(behind)));
        return one.plus(sum(sheltered(new int[] {behind, r, way, h, speed}, walker[ahead][2] * high(ahead), 0)));
    }

    private void lees() {
        for (int i = 0; i < 30 && rain.length > 0 && road.length > 0 && walker.length > 1; i++) {
            int a = from(0, walker.length - 1);
            int b = (a + from(1, walker.length - 1)) % walker.length;
            int r = from(0, road.length - 1);
            int way = from(0, 1);
            int h = from(0, rain.length - 1);
            int speed = from(1, 9);
            String lee = "(" + a + "," + b + "," + r + "," + way + "," + h + "," + speed + ") in " + text;
            if (speed < Math.max(walker[a][5], walker[b][5]) || speed > Math.min(walker[a][6], walker[b][6])) {
                Check.refused("lee" + lee, x, x.lee(a, b, r, way, h, speed, false), -1, 2);
                continue;
            }
            Frac first = together(a, b, r, way, h, speed);
            int order = first.compareTo(together(b, a, r, way, h, speed));
            same("lee" + lee, x.lee(a, b, r, way, h, speed, false), x.lee(a, b, r, way, h, speed, true), first);
            Check.due("first" + lee, x.first(a, b, r, way, h, speed), order < 0 ? 0 : order > 0 ? 1 : -2);
        }
    }

    private void seens() {
        int lies = 0;
        for (int s = 0; s < seen.length; s++) {
            List<Integer> codes = new ArrayList<>();
            for (int r = 0; r < road.length; r++) {
                for (int way = 0; way < 2; way++) {
                    for (int h = 0; h < rain.length; h++) {
                        for (int speed = walker[seen[s][0]][5]; speed <= walker[seen[s][0]][6]; speed++) {
                            if (fitsAll(faces(seen[s][0], r, way, h, speed), seen[s])) {
                                codes.add(1000 * r + 100 * way + 10 * h + speed);
                            }
                        }
                    }
                }
            }
            lies |= codes.isEmpty() ? 1 << s : 0;
            Check.due("fits(" + s + ") in " + text, x.fits(s), codes.size());
            for (int i = 0; i < codes.size() && i < 20; i++) {
                Check.due("fit(" + s + "," + i + ") in " + text, x.fit(s, i), codes.get(i));
            }
            Check.due("fit behind the last", x.fit(s, codes.size()), -1);
        }
        Check.due("lies() in " + text, x.lies(), lies);
    }

    private static boolean fitsAll(Frac[] faces, int[] row) {
        for (int face = 0; face < 5; face++) {
            if (faces[face].compareTo(new Frac(row[face + 1], 1)) != 0) {
                return false;
            }
        }
        return true;
    }

    private void ways(boolean large) {
        for (int i = 0; i < 6; i++) {
            int w = from(0, walker.length - 1);
            int a = from(0, drip.length - 1);
            int b = from(0, drip.length - 1);
            int till = large ? from(0, i == 0 ? 400 : 60) : from(0, 30);
            int start = from(0, till);
            String of = "(" + w + "," + a + "," + b + "," + start + "," + till + ") in " + text;
            Path path = best(w, a, b, start, till, till - start <= 4 ? null : new HashMap<>());
            if (path == null) {
                Check.refused("least" + of, x, x.least(w, a, b, start, till, false), -1, 6);
                Check.refused("step" + of, x, x.step(w, a, b, start, till, 0), -1, 6);
            } else {
                same("least" + of, x.least(w, a, b, start, till, false), x.least(w, a, b, start, till, true), path.mean);
                Check.due("there" + of, x.there(w, a, b, start, till), path.end);
                Check.due("steps" + of, x.steps(w, a, b, start, till), path.steps.size());
                for (int k = 0; k < path.steps.size(); k++) {
                    int code = path.steps.get(k);
                    Check.due("step " + k + of, x.step(w, a, b, start, till, k), code == 9999 ? -2 : code);
                }
            }
            off(w, a, b, Math.min(till, 25));
        }
    }

    private void off(int w, int a, int b, int till) {
        int found = -1;
        Frac least = null;
        Map<Integer, Path> known = new HashMap<>();
        for (int start = 0; start <= till; start++) {
            Path path = best(w, a, b, start, till, known);
            if (path != null && (least == null || path.mean.compareTo(least) < 0)) {
                least = path.mean;
                found = start;
            }
        }
        Check.due("off(" + w + "," + a + "," + b + "," + till + ") in " + text, x.off(w, a, b, till), found);
        Check.due("trouble()", x.trouble(), found < 0 ? 6 : 0);
    }

    /** The best of all ways from here, none left out; what is known of a place and minute is used if there is a map. */
    private Path best(int w, int place, int goal, int minute, int till, Map<Integer, Path> known) {
        int here = place * 1000 + minute;
        if (known != null && known.containsKey(here)) {
            return known.get(here);
        }
        Path found = null;
        if (place == goal && minute <= till) {
            found = new Path();
            found.end = minute;
        }
        for (int r = 0; r < road.length; r++) {
            for (int way = 0; way < 2; way++) {
                for (int speed = walker[w][5]; speed <= walker[w][6] && road[r][way] == place; speed++) {
                    int end = minute + (road[r][3] + speed - 1) / speed;
                    int h = minute / hourMinutes;
                    Frac mean = h < rain.length ? wetOf(w, r, way, h, speed).times(rain[h][4], 100) : ZERO;
                    Path rest = end > till ? null : best(w, road[r][1 - way], goal, end, till, known);
                    found = better(found, rest, mean, 100 * r + 10 * way + speed);
                }
            }
        }
        if (drip[place] >= 0 && minute < till) {
            int h = minute / hourMinutes;
            long top = Math.max(0, walker[w][2] * deep(w) - (walker[w][0] == 3 ? walker[w][1] : 0));
            Frac mean = h < rain.length ? new Frac(drip[place] * top * rain[h][4], 100) : ZERO;
            found = better(found, best(w, place, goal, minute + 1, till, known), mean, 9999);
        }
        if (known != null) {
            known.put(here, found);
        }
        return found;
    }

    private static Path better(Path found, Path rest, Frac mean, int code) {
        if (rest == null) {
            return found;
        }
        Path path = new Path();
        path.mean = mean.plus(rest.mean);
        path.end = rest.end;
        path.steps.add(code);
        path.steps.addAll(rest.steps);
        if (found == null) {
            return path;
        }
        int order = path.mean.compareTo(found.mean);
        order = order != 0 ? order : Integer.compare(path.end, found.end);
        for (int i = 0; order == 0 && i < Math.min(path.steps.size(), found.steps.size()); i++) {
            order = Integer.compare(path.steps.get(i), found.steps.get(i));
        }
        return order < 0 ? path : found;
    }

    private void day() {
        int w = from(0, walker.length - 1);
        int place = from(0, drip.length - 1);
        int minute = from(0, 3) == 0 ? from(0, 400) : from(0, 40);
        int seed = from(0, 65536);
        long drawn = seed;
        int bits = 0;
        for (int h = 0; h < rain.length; h++) {
            drawn = (75 * drawn + 74) % 65537;
            bits |= drawn % 100 < rain[h][4] ? 1 << h : 0;
        }
        Check.due("day in " + text, x.day(w, place, minute, seed), bits);
        List<Object[]> past = new ArrayList<>();
        List<Object[]> marks = new ArrayList<>();
        Object[] now = {place, minute, new Frac[] {ZERO, ZERO, ZERO, ZERO, ZERO}};
        for (int i = 0; i < 60; i++) {
            int act = from(0, 11);
            if (act < 5 && road.length > 0) {
                now = go(w, bits, now, past);
            } else if (act < 8) {
                now = stay(w, bits, now, past);
            } else if (act == 8) {
                Check.due("undo", x.undo(), !past.isEmpty());
                now = past.isEmpty() ? now : past.remove(past.size() - 1);
            } else if (act == 9) {
                Check.due("mark", x.mark(), marks.size() < 3 ? marks.size() : -1);
                if (marks.size() < 3) {
                    marks.add(now);
                }
            } else if (act == 10 && from(0, 2) == 0) {
                int mark = from(-1, 3);
                boolean such = mark >= 0 && mark < marks.size();
                Check.due("back", x.back(mark), such);
                now = such ? marks.get(mark) : now;
                if (such) {
                    past.clear();
                }
            }
            while (past.size() > 16) {
                past.remove(0);
            }
            Check.due("size(9)", x.size(9), past.size());
            Check.due("size(10)", x.size(10), marks.size());
            sameMoment(w, now);
        }
    }

    private Object[] go(int w, int bits, Object[] now, List<Object[]> past) {
        int r = from(0, road.length - 1);
        int way = from(0, 1);
        int speed = from(walker[w][5], walker[w][6]);
        int minute = (Integer) now[1];
        int end = minute + (road[r][3] + speed - 1) / speed;
        String leg = "go(" + r + "," + way + "," + speed + ") in " + text;
        if (road[r][way] != (Integer) now[0] || end > 999) {
            Check.refused(leg, x, x.go(r, way, speed), -1, road[r][way] != (Integer) now[0] ? 5 : 3);
            return now;
        }
        Check.granted(leg, x, x.go(r, way, speed), end);
        past.add(now);
        Frac[] faces = ((Frac[]) now[2]).clone();
        int h = minute / hourMinutes;
        if (h < rain.length && (bits >> h & 1) == 1) {
            Frac[] more = faces(w, r, way, h, speed);
            for (int face = 0; face < 5; face++) {
                faces[face] = faces[face].plus(more[face]);
            }
        }
        return new Object[] {road[r][1 - way], end, faces};
    }

    private Object[] stay(int w, int bits, Object[] now, List<Object[]> past) {
        int n = from(0, 3) == 0 ? from(1, 60) : from(1, 7);
        int place = (Integer) now[0];
        int minute = (Integer) now[1];
        if (drip[place] < 0 || minute + n > 999) {
            Check.refused("stay(" + n + ") in " + text, x, x.stay(n), drip[place] < 0 ? 5 : 3);
            return now;
        }
        Check.due("stay(" + n + ") in " + text, x.stay(n), true);
        past.add(now);
        Frac[] faces = ((Frac[]) now[2]).clone();
        long top = Math.max(0, walker[w][2] * deep(w) - (walker[w][0] == 3 ? walker[w][1] : 0));
        for (int m = minute; m < minute + n; m++) {
            int h = m / hourMinutes;
            if (h < rain.length && (bits >> h & 1) == 1) {
                faces[0] = faces[0].plus(new Frac(drip[place] * top, 1));
            }
        }
        return new Object[] {place, minute + n, faces};
    }

    private void sameMoment(int w, Object[] now) {
        Frac[] faces = (Frac[]) now[2];
        Check.due("size(7)", x.size(7), (Integer) now[0]);
        Check.due("size(8)", x.size(8), (Integer) now[1]);
        for (int face = 0; face < 5; face++) {
            same("got(" + face + ")", x.got(face, false), x.got(face, true), faces[face]);
        }
        Frac coat = new Frac(walker[w][0] == 2 ? walker[w][1] : 0, 1);
        Frac through = sum(faces).minus(coat);
        boolean more = through.compareTo(ZERO) > 0;
        same("wetness", x.wetness(false), x.wetness(true), more ? through : ZERO);
        Check.due("soaked", x.soaked(), walker[w][0] != 2 ? -2 : more ? 1 : 0);
    }
}
