import java.util.LinkedHashMap;
import java.util.Map;
import java.util.function.Supplier;
import java.util.function.ToLongFunction;

/**
 * All that an object tells of itself, but FINDINGS, by the calls that tell it. The object is made again and again, so
 * that none is asked more than the 512 calls beyond which the document leaves answers free.
 */
final class State {
    /** What is left for asking: no scene takes more than 300 calls. */
    private static final int CALLS = 200;

    private final Supplier<GraphPhotographer> source;
    private final Map<String, Long> told = new LinkedHashMap<>();
    private GraphPhotographer g;
    private int calls;

    private State(Supplier<GraphPhotographer> source) {
        this.source = source;
        this.g = source.get();
    }

    static Map<String, Long> of(Supplier<GraphPhotographer> source) {
        State state = new State(source);
        state.numbers();
        state.classes();
        state.things();
        state.pictures();
        state.whatOnlyChangesTell();
        return state.told;
    }

    private void renew() {
        g = source.get();
        calls = 0;
    }

    private long tell(String call, ToLongFunction<GraphPhotographer> ask) {
        if (calls >= CALLS) renew();
        calls++;
        long answer = ask.applyAsLong(g);
        told.put(call, answer);
        return answer;
    }

    private void tellSeen(String call, ToLongFunction<GraphPhotographer> ask) {
        tell(call, ask);
        calls++;
        told.put(call + " seen", g.seen());
    }

    private void numbers() {
        tell("seen()", GraphPhotographer::seen);
        tell("misfit()", GraphPhotographer::misfit);
        tell("digest()", GraphPhotographer::digest);
        tell("groups()", GraphPhotographer::groups);
        for (int what = 0; what < 6; what++) {
            int asked = what;
            tell("count(" + what + ")", h -> h.count(asked));
        }
        for (int root = 0; root < 6; root++) {
            int r = root;
            tell("root(" + r + ")", h -> h.root(r));
        }
        long conflicts = Math.min(tell("conflict(-1, 0)", h -> h.conflict(-1, 0)), 61);
        for (int at = 0; at < 3 * conflicts; at++) {
            int k = at / 3;
            int what = at % 3;
            tell("conflict(" + k + ", " + what + ")", h -> h.conflict(k, what));
        }
        for (int at = 0; at < 5 * told.get("count(4)"); at++) {
            int k = at / 5;
            int what = at % 5;
            tell("edit(" + k + ", " + what + ")", h -> h.edit(k, what));
        }
    }

    private void classes() {
        for (int at = 0; at < 11 * told.get("count(0)"); at++) {
            int c = 20 + at / 11;
            int what = at % 11;
            tell("about(" + c + ", " + what + ")", h -> h.about(c, what));
        }
    }

    private void things() {
        for (int number = 0; number < told.get("count(1)"); number++) {
            int x = number;
            tell("classOf(" + x + ")", h -> h.classOf(x));
            tell("sealed(" + x + ")", h -> h.sealed(x));
            long length = tell("length(" + x + ")", h -> h.length(x));
            for (int place = 0; place < length; place++) {
                int i = place;
                tellSeen("get(" + x + ", " + i + ")", h -> h.get(x, i));
            }
        }
    }

    private void pictures() {
        for (int picture = 0; picture < told.get("count(3)"); picture++) {
            int p = picture;
            for (int what = 0; what < 8; what++) {
                int asked = what;
                tell("picture(" + p + ", " + what + ")", h -> h.picture(p, asked));
            }
            for (int x = 0; x < told.get("count(1)"); x++) entry(p, x);
        }
    }

    private void entry(int p, int x) {
        String call = "entry(" + p + ", " + x + ", ";
        if (tell(call + "0)", h -> h.entry(p, x, 0)) < 0) return;
        tell(call + "2)", h -> h.entry(p, x, 2));
        long length = tell(call + "1)", h -> h.entry(p, x, 1));
        for (int i = 0; i < length; i++) {
            int what = 3 + i;
            tellSeen(call + what + ")", h -> h.entry(p, x, what));
        }
    }

    /** By calls that change it, at the end. */
    private void whatOnlyChangesTell() {
        renew();
        tell("lay(0)", h -> h.lay(0));
        for (int made = 0; made < told.get("count(0)"); made++) {
            int c = 20 + made;
            tell("close(" + c + ")", h -> h.close(c));
        }
        for (int word = 0; word < 9; word++) {
            int w = word;
            tell("box(4, " + w + ")", h -> h.box(4, w));
        }
        tell("sweep()", GraphPhotographer::sweep);
    }
}
