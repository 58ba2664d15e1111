/**
 * All that can be asked of an object, but for THE TAPE and what the latest call left: so that what must stay is seen to stay.
 * It asks little enough that an object's 512 calls are not used up.
 */
final class State {
    private State() {
    }

    private static String of(RainWalk x) {
        StringBuilder all = new StringBuilder();
        for (int what = 0; what < 11; what++) {
            all.append(x.size(what)).append(' ');
        }
        for (int w = 0; w < x.size(4); w++) {
            for (int what = 0; what < 7; what++) {
                all.append(x.walker(w, what)).append(' ');
            }
        }
        for (int r = 0; r < x.size(3); r++) {
            for (int what = 0; what < 5; what++) {
                all.append(x.road(r, what)).append(' ');
            }
        }
        all.append(x.lies()).append(' ');
        for (int hour = 0; hour < x.size(1); hour++) {
            all.append(x.air(0, 0, hour)).append(' ').append(x.mean(0, 0, 0, hour, x.walker(0, 5), false)).append(' ');
        }
        return all.append(now(x)).toString();
    }

    private static String now(RainWalk x) {
        StringBuilder all = new StringBuilder();
        for (int what = 6; what < 11; what++) {
            all.append(x.size(what)).append(' ');
        }
        for (int face = 0; face < 5; face++) {
            all.append(x.got(face, false)).append(' ');
        }
        return all.append(x.wetness(false)).append(' ').append(x.soaked()).toString();
    }

    private static void equal(String call, String got, String want) {
        if (!got.equals(want)) {
            System.out.println("after " + call + " there is " + got + ", due is " + want);
        }
        Check.due("all is as before " + call, got.equals(want), true);
    }

    /** The twin did not do the call. Both are undone, sent back to their marks, and wait, so that what is kept is seen, too. */
    static void stayed(String call, RainWalk x, RainWalk twin) {
        equal(call, of(x), of(twin));
        for (boolean undone = true; undone;) {
            undone = twin.undo();
            Check.due("undo after " + call, x.undo(), undone);
            equal(call, now(x), now(twin));
        }
        for (int mark = 0; mark < 4; mark++) {
            Check.due("back(" + mark + ") after " + call, x.back(mark), twin.back(mark));
            equal(call, now(x), now(twin));
        }
        for (int i = 0; i < 5; i++) {
            Check.due("stay " + i + " after " + call, x.stay(7), twin.stay(7));
            equal(call, now(x), now(twin));
        }
    }
}
