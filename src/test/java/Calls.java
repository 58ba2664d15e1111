import java.util.LinkedHashMap;
import java.util.Map;
import java.util.function.ToLongFunction;

/** Every call that may be refused (a number of TROUBLE is told of it), with the least arguments; a boolean counts 1 or 0. */
final class Calls {
    private Calls() {
    }

    static Map<String, ToLongFunction<RainWalk>> refusable() {
        Map<String, ToLongFunction<RainWalk>> all = new LinkedHashMap<>();
        all.put("world", x -> x.world(0));
        all.put("face", x -> x.face(0, 0, 0, 0, 1, 0, false));
        all.put("wet", x -> x.wet(0, 0, 0, 0, 1, false));
        all.put("mean", x -> x.mean(0, 0, 0, 0, 1, false));
        all.put("minutes", x -> x.minutes(0, 0, 1));
        all.put("air", x -> x.air(0, 0, 0));
        all.put("held", x -> x.held(0, 0, 0, 0, 1));
        all.put("best", x -> x.best(0, 0, 0, 0));
        all.put("saves", x -> x.saves(0, 0, 0, 0, false));
        all.put("worst", x -> x.worst(0, 0, 0, 0));
        all.put("even", x -> x.even(0, 0, 0, 0));
        all.put("round", x -> x.round(0, 0, 0, false));
        all.put("driest", x -> x.driest(0, 0, 0));
        all.put("lee", x -> x.lee(0, 1, 0, 0, 0, 1, false));
        all.put("first", x -> x.first(0, 1, 0, 0, 0, 1));
        all.put("least", x -> x.least(0, 0, 0, 0, 0, false));
        all.put("there", x -> x.there(0, 0, 0, 0, 0));
        all.put("steps", x -> x.steps(0, 0, 0, 0, 0));
        all.put("step", x -> x.step(0, 0, 1, 0, 400, 0));
        all.put("off", x -> x.off(0, 0, 0, 0));
        all.put("fits", x -> x.fits(0));
        all.put("fit", x -> x.fit(0, 0));
        all.put("lies", x -> x.lies());
        all.put("got", x -> x.got(0, false));
        all.put("wetness", x -> x.wetness(false));
        all.put("soaked", x -> x.soaked());
        all.put("go", x -> x.go(0, 0, 1));
        all.put("stay", x -> x.stay(1) ? 1 : 0);
        all.put("undo", x -> x.undo() ? 1 : 0);
        all.put("mark", x -> x.mark());
        all.put("back", x -> x.back(0) ? 1 : 0);
        all.put("day", x -> x.day(0, 0, 0, 0));
        all.put("walker", x -> x.walker(0, 0));
        all.put("road", x -> x.road(0, 0));
        return all;
    }

    /** What a call answers that is refused. */
    static long none(String call) {
        switch (call) {
            case "air": return -100;
            case "stay": case "undo": case "back": return 0;
            default: return RainWalk.NONE;
        }
    }

    /** The calls of which no number of TROUBLE is told. */
    static void unrefusable(RainWalk x) {
        x.feed(0, 0, 0, 0, 0);
        x.fault();
        x.where();
        x.size(0);
        x.size(12);
        Check.ledThrows(x, 0);
        Check.ledThrows(x, -1);
        x.trouble();
    }
}
