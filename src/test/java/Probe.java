import java.util.ArrayList;
import java.util.List;

/**
 * All that calls can tell of an object but what was refused, so that two objects can be compared.
 * In the end the object is used up for it: cloths folded, the tape read, works undone, images restored.
 */
final class Probe {
    private final UnreadyLead x;
    private final List<String> seen = new ArrayList<>();

    private Probe(UnreadyLead x) {
        this.x = x;
    }

    static List<String> of(UnreadyLead x) {
        Probe probe = new Probe(x);
        probe.now();
        probe.bags();
        probe.tape();
        probe.past();
        return probe.seen;
    }

    /** How many calls were refused, by reason. */
    static int[] status(UnreadyLead x) {
        int[] many = new int[6];
        for (int what = 0; what < 6; what++) {
            many[what] = x.status(what);
        }
        return many;
    }

    private boolean see(String call, Due.Call run) {
        try {
            seen.add(call + " " + run.go());
            return true;
        } catch (RuntimeException e) {
            seen.add(call + " " + e.getClass().getSimpleName());
            return false;
        }
    }

    private void now() {
        state();
        for (int p = 0; p < x.told(0); p++) {
            int q = p;
            for (int what : new int[] {0, 1, 2, 6, 7}) {
                see("person " + p + " " + what, () -> x.person(q, what));
            }
        }
        for (int t = 0; t < x.told(1); t++) {
            int u = t;
            see("needs " + t, () -> x.task(u, 0));
        }
        for (int what = 0; what < 4; what++) {
            int w = what;
            see("count " + what, () -> x.count(w));
        }
        see("lines", () -> x.told(9));
        see("refused", () -> x.told(10));
        see("fault", () -> x.fault());
        see("fits", () -> x.fits());
        see("look", () -> x.look(0));
        law();
    }

    private void law() {
        see("would 1", () -> x.would(1, 1, 1, 1, 1, 1, 1, 1));
        see("would 2", () -> x.would(9, 0, 0, 0, 23, 30, 5, 7));
    }

    /** What work changes. */
    private void state() {
        for (int what : new int[] {0, 1, 2, 3, 7, 8, 11}) {
            see("told " + what, () -> x.told(what));
        }
        for (int p = 0; p < x.told(0); p++) {
            int q = p;
            for (int what = 3; what < 6; what++) {
                int w = what;
                see("person " + p + " " + what, () -> x.person(q, w));
            }
        }
        for (int t = 0; t < x.told(1); t++) {
            int u = t;
            see("done of " + t, () -> x.task(u, 1));
        }
    }

    private void bags() {
        for (int bag = 0; bag < 8; bag++) {
            int b = bag;
            see("kind " + bag, () -> x.kind(b));
            see("wear " + bag, () -> x.wear(b));
            see("fold " + bag, () -> x.fold(b));
            boolean more = true;
            for (int place = 0; place < 25 && more; place++) {
                int at = place;
                more = see("read " + bag + " " + place, () -> x.read(b, at));
            }
        }
    }

    private void tape() {
        int n = Math.min(150, x.count(1));
        see("law of the tape", () -> x.law(n));
        see("its fault", () -> x.fault());
        law();
    }

    private void past() {
        for (int i = 0; i < 4; i++) {
            boolean more = true;
            for (int k = 0; k < 17 && more; k++) {
                more = x.count(2) > 0;
                see("undo", () -> x.undo());
                state();
            }
            see("restore", () -> x.restore());
            state();
        }
    }
}
