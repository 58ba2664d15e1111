/** What the tests of the project share: answers that are due, texts that are fed, refused calls. */
final class Check {
    private static int wrong = 0;
    private static int asked = 0;

    private Check() {
    }

    static void due(String call, long got, long want) {
        asked++;
        if (got != want) {
            wrong++;
            System.out.println(call + " answered " + got + ", due is " + want);
        }
    }

    static void due(String call, boolean got, boolean want) {
        due(call, got ? 1 : 0, want ? 1 : 0);
    }

    /** A fraction, told by its upper and its lower whole. */
    static void fraction(String call, long up, long down, long wantUp, long wantDown) {
        due(call + ", the upper", up, wantUp);
        due(call + ", the lower", down, wantDown);
    }

    static void refused(String call, RainWalk x, long got, long none, int trouble) {
        due(call, got, none);
        due("trouble() behind " + call, x.trouble(), trouble);
    }

    static void refused(String call, RainWalk x, boolean got, int trouble) {
        refused(call, x, got ? 1 : 0, 0, trouble);
    }

    static void granted(String call, RainWalk x, long got, long want) {
        due(call, got, want);
        due("trouble() behind " + call, x.trouble(), 0);
    }

    /** Blanks fill the last twenty bytes. */
    static void feed(RainWalk x, String text) {
        for (int i = 0; i < text.length(); i += 20) {
            x.feed(number(text, i), number(text, i + 4), number(text, i + 8), number(text, i + 12), number(text, i + 16));
        }
    }

    private static int number(String text, int at) {
        int number = 0;
        for (int i = at; i < at + 4; i++) {
            number = number << 8 | (i < text.length() ? text.charAt(i) & 255 : 32);
        }
        return number;
    }

    static int world(RainWalk x, String text) {
        feed(x, text);
        return x.world(text.length());
    }

    static RainWalk of(String text) {
        RainWalk x = new RainWalk();
        if (world(x, text) < 1) {
            due("world of \"" + text + "\": fault at " + x.where(), x.fault(), 0);
        }
        return x;
    }

    static void fault(String text, int number, int place) {
        RainWalk x = new RainWalk();
        String call = "world of \"" + text + "\"";
        refused(call, x, world(x, text), RainWalk.NONE, 4);
        due("fault() of \"" + text + "\"", x.fault(), number);
        due("where() of \"" + text + "\"", x.where(), place);
    }

    static void sound(String text, int walkers) {
        RainWalk x = new RainWalk();
        granted("world of \"" + text + "\"", x, world(x, text), walkers);
        due("fault() of \"" + text + "\"", x.fault(), 0);
        due("where() of \"" + text + "\"", x.where(), RainWalk.NONE);
    }

    /** Whether led(i) throws what it should. */
    static boolean ledThrows(RainWalk x, int i) {
        try {
            x.led(i);
            return false;
        } catch (java.util.NoSuchElementException e) {
            return true;
        }
    }

    static void end(String test) {
        System.out.println(test + ": " + asked + " answers, " + wrong + " not as due");
        if (wrong != 0 || asked == 0) {
            System.exit(1);
        }
    }
}
