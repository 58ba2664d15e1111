import java.util.ArrayList;
import java.util.HashMap;
import java.util.List;
import java.util.Map;
import java.util.Random;
import java.util.Set;

/** Sound texts that are spoiled at random: fault and place against a second reader that goes by written patterns. */
public final class MutantTest {
    private static final Set<String> KEPT = Set.of("world", "rain", "place", "road", "walker", "seen", "inn", "tree", "awning");
    private static final Set<String> SIDES = Set.of("north", "east", "south", "west");
    private static final Map<String, Integer> ROOM = Map.of("rain", 6, "place", 8, "road", 12, "walker", 4, "seen", 4);

    /** # a WHOLE, @ a SIDE, + a new NAME, P a place, Q another place, V a walker, K a kind; [..] perhaps. */
    private static final Map<String, String> PATTERNS = Map.of(
        "world", "hour #5-60",
        "rain", "drops #0-9 down #1-9 wind @ #0-9 chance #0-100",
        "place", "+ [inn|tree #0-9]",
        "road", "P @ #1-60 Q [awning #0-L]",
        "walker", "+ K broad #1-9 deep #1-9 high #B-9 from #1-9 to #F-9",
        "seen", "V #0-999 , #0-999 , #0-999 , #0-999 , #0-999");

    private static final String[] SOUND = {
        "world hour 10;rain drops 2 down 3 wind east 4 chance 50;place a inn;place b tree 2;place c;road a east 12 b awning 4;"
            + "road b north 10 c;walker p plain broad 2 deep 1 high 5 from 2 to 6;walker s shield 6 broad 3 deep 2 high 4 from 1 to 3;"
            + "walker k coat 40 broad 2 deep 1 high 5 from 1 to 4;walker n bent 2 broad 2 deep 1 high 5 from 3 to 3;seen p 48,0,160,0,0",
        "world hour 5;place north;walker broad bent 4 broad 9 deep 9 high 5 from 1 to 9;seen broad 1,2,3,4,5;place hour inn;"
            + "road hour west 60 north awning 60",
        "world hour 60;place a;place b;place c;place d;place e;place f;place g;walker z plain broad 1 deep 1 high 1 from 1 to 1;"
            + "walker y coat 0 broad 1 deep 1 high 1 from 1 to 1;walker x coat 0 broad 1 deep 1 high 1 from 1 to 1",
        "world hour 60;place a;place b;place c;place d;place e;place f;place g;place h;"
            + "rain drops 1 down 1 wind west 1 chance 1;".repeat(6) + "walker p plain broad 1 deep 1 high 1 from 1 to 1;"
            + "road a north 1 b;".repeat(12) + "seen p 1,1,1,1,1;seen p 1,1,1,1,1;seen p 1,1,1,1,1;seen p 1,1,1,1,1",
    };

    private static final String[] BITS = {";", ",", " ", "a", "z", "b", "inn", "tree", "place a", "place q;", "seen", "world", "hour", "5",
        "0", "999", "1000", "60", "61", "9", "10", "abcdefgh", "abcdefghi", "!", "A", "north", "up", "plain", "bent 3", "awning 3",
        ";road a north 1 b", ";place q", ";place r;place s", ";rain drops 1 down 1 wind west 1 chance 1", ";seen p 1,1,1,1,1", "\t"};

    private final List<String> tokens = new ArrayList<>();
    private final List<Integer> places = new ArrayList<>();
    private int at;
    private int fault;
    private final Map<String, String> names = new HashMap<>();
    private final Map<String, Integer> counts = new HashMap<>();
    private int last;
    private int bound;
    private int high;
    private String first;

    public static void main(String[] args) {
        Random random = new Random(7);
        int[] met = new int[7];
        for (int i = 0; i < 30000; i++) {
            String text = SOUND[random.nextInt(SOUND.length)];
            for (int k = random.nextInt(4); k > 0; k--) {
                text = spoil(text, random);
            }
            if (text.length() <= 900) {
                met[compare(text)]++;
            }
        }
        for (int number = 0; number < 7; number++) {
            Check.due("fault " + number + " is met often", met[number] > 50, true);
        }
        Check.end("MutantTest");
    }

    private static int compare(String text) {
        MutantTest due = new MutantTest();
        due.read(text);
        RainWalk x = new RainWalk();
        int answer = Check.world(x, text);
        Check.due("fault of " + text, x.fault(), due.fault);
        Check.due("where of " + text, x.where(), due.fault == 0 ? -1 : due.places.get(due.at));
        Check.due("world of " + text, answer, due.fault == 0 ? due.counts.get("walker") : -1);
        return due.fault;
    }

    private static String spoil(String text, Random random) {
        int a = random.nextInt(text.length() + 1);
        int b = Math.min(text.length(), a + random.nextInt(6));
        String bit = BITS[random.nextInt(BITS.length)];
        switch (random.nextInt(6)) {
            case 0: return text.substring(0, a);
            case 1: return text.substring(0, a) + text.substring(b);
            case 2: return text.substring(0, a) + bit + text.substring(a);
            case 3: return text.substring(0, a) + bit + text.substring(b);
            case 4: return line(text, random, bit);
            default: return word(text, random, bit);
        }
    }

    private static String word(String text, Random random, String bit) {
        String[] words = text.split(" ", -1);
        words[random.nextInt(words.length)] = bit;
        return String.join(" ", words);
    }

    private static String line(String text, Random random, String bit) {
        List<String> lines = new ArrayList<>(List.of(text.split(";", -1)));
        String moved = lines.get(random.nextInt(lines.size()));
        if (random.nextBoolean()) {
            lines.remove(moved);
        }
        lines.add(random.nextInt(lines.size() + 1), random.nextInt(3) == 0 ? bit : moved);
        return String.join(";", lines);
    }

    private void cut(String text) {
        int i = 0;
        while (i < text.length()) {
            char c = text.charAt(i);
            int j = i + 1;
            if (c >= 'a' && c <= 'z') {
                while (j < text.length() && text.charAt(j) >= 'a' && text.charAt(j) <= 'z') {
                    j++;
                }
            } else if (c >= '0' && c <= '9') {
                while (j < text.length() && text.charAt(j) >= '0' && text.charAt(j) <= '9') {
                    j++;
                }
            }
            if (c != ' ') {
                String token = text.substring(i, j);
                tokens.add(token.matches("[a-z]{1,8}|[0-9]{1,3}|[;,]") ? token : "?");
                places.add(i);
            }
            i = j;
        }
        tokens.add("");
        places.add(text.length());
    }

    private void read(String text) {
        cut(text);
        do {
            lineOf(tokens.get(at));
            if (fault == 0 && !tokens.get(at).equals("") && !tokens.get(at).equals(";")) {
                fault = 1;
            }
            if (fault == 0 && tokens.get(at).equals("")) {
                fault = counts.containsKey("place") && counts.containsKey("walker") ? 0 : 6;
                return;
            }
            at++;
        } while (fault == 0);
        at--;
    }

    private void lineOf(String word) {
        if (!PATTERNS.containsKey(word)) {
            fault = 1;
        } else if (word.equals("world") && counts.containsKey("world")) {
            fault = 3;
        } else if (!word.equals("world") && !counts.containsKey("world")) {
            fault = 6;
        } else if (!word.equals("world") && counts.getOrDefault(word, 0) >= ROOM.get(word)) {
            fault = 5;
        }
        if (fault != 0) {
            return;
        }
        at++;
        high = 1;
        String pattern = PATTERNS.get(word);
        int perhaps = pattern.indexOf('[');
        String firm = perhaps < 0 ? pattern : pattern.substring(0, perhaps).trim();
        parts(firm, word);
        if (perhaps >= 0 && fault == 0) {
            for (String choice : pattern.substring(perhaps + 1, pattern.length() - 1).split("\\|")) {
                if (fault == 0 && choice.split(" ")[0].equals(tokens.get(at))) {
                    parts(choice, word);
                    break;
                }
            }
        }
        counts.merge(word, 1, Integer::sum);
    }

    private void parts(String pattern, String sort) {
        for (String part : pattern.split(" ")) {
            if (fault != 0) {
                return;
            }
            fault = part(part, sort, tokens.get(at));
            if (fault == 0) {
                at++;
            }
        }
    }

    private int part(String part, String sort, String token) {
        switch (part.charAt(0)) {
            case '#': return whole(part.substring(1).split("-"), token);
            case '@': return SIDES.contains(token) ? 0 : 1;
            case '+': {
                int bad = !isName(token) ? 1 : names.containsKey(token) ? 3 : 0;
                names.putIfAbsent(token, sort);
                return bad;
            }
            case 'P':
                first = token;
                return !isName(token) ? 1 : "place".equals(names.get(token)) ? 0 : 2;
            case 'Q':
                return !isName(token) ? 1 : !"place".equals(names.get(token)) ? 2 : token.equals(first) ? 3 : 0;
            case 'V': return !isName(token) ? 1 : "walker".equals(names.get(token)) ? 0 : 2;
            case 'K': return kind(token);
            default: return part.equals(token) ? 0 : 1;
        }
    }

    private int kind(String token) {
        if (token.equals("plain")) {
            return 0;
        }
        String[] bounds = Map.of("bent", new String[] {"1", "8"}, "coat", new String[] {"0", "999"}, "shield", new String[] {"1", "99"})
            .getOrDefault(token, new String[0]);
        if (bounds.length == 0) {
            return 1;
        }
        at++;
        int bad = whole(bounds, tokens.get(at));
        high = token.equals("bent") ? last + 1 : 1;
        return bad;
    }

    private int whole(String[] bounds, String token) {
        if (!token.matches("[0-9]{1,3}")) {
            return 1;
        }
        int least = bounds[0].equals("B") ? high : bounds[0].equals("F") ? last : Integer.parseInt(bounds[0]);
        int most = bounds[1].equals("L") ? bound : Integer.parseInt(bounds[1]);
        last = Integer.parseInt(token);
        bound = last;
        return last < least || last > most ? 4 : 0;
    }

    private static boolean isName(String token) {
        return token.matches("[a-z]{1,8}") && !KEPT.contains(token);
    }
}
