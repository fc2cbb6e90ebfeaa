import java.util.LinkedHashMap;
import java.util.Map;

/**
 * All that an object tells of itself, but FINDINGS, by the calls that tell it. The object is used up by it: at the end
 * come calls that change it, for what no other call tells. (It asks more than 512 calls, beyond which the document
 * leaves answers free; the program has no such end.)
 */
final class State {
    private final GraphPhotographer g;
    private final Map<String, Long> told = new LinkedHashMap<>();

    private State(GraphPhotographer g) {
        this.g = g;
    }

    static Map<String, Long> of(GraphPhotographer g) {
        State state = new State(g);
        state.numbers();
        state.classes();
        state.things();
        state.pictures();
        state.whatOnlyChangesTell();
        return state.told;
    }

    private void tell(String call, long answer) {
        told.put(call, answer);
    }

    private void numbers() {
        tell("seen()", g.seen());
        tell("misfit()", g.misfit());
        tell("digest()", g.digest());
        tell("groups()", g.groups());
        for (int what = 0; what < 6; what++) tell("count(" + what + ")", g.count(what));
        for (int r = 0; r < 6; r++) tell("root(" + r + ")", g.root(r));
        tell("conflict(-1, 0)", g.conflict(-1, 0));
        for (int k = 0; k < Math.min(g.conflict(-1, 0), 61); k++) {
            for (int what = 0; what < 3; what++) tell("conflict(" + k + ", " + what + ")", g.conflict(k, what));
        }
        for (int k = 0; k < g.count(4); k++) {
            for (int what = 0; what < 5; what++) tell("edit(" + k + ", " + what + ")", g.edit(k, what));
        }
    }

    private void classes() {
        for (int c = 20; c < 20 + g.count(0); c++) {
            for (int what = 0; what < 11; what++) tell("about(" + c + ", " + what + ")", g.about(c, what));
        }
    }

    private void things() {
        for (int x = 0; x < g.count(1); x++) {
            tell("classOf(" + x + ")", g.classOf(x));
            tell("length(" + x + ")", g.length(x));
            tell("sealed(" + x + ")", g.sealed(x));
            for (int i = 0; i < g.length(x); i++) {
                tell("get(" + x + ", " + i + ")", g.get(x, i));
                tell("get(" + x + ", " + i + ") seen", g.seen());
            }
        }
    }

    private void pictures() {
        for (int p = 0; p < g.count(3); p++) {
            for (int what = 0; what < 8; what++) tell("picture(" + p + ", " + what + ")", g.picture(p, what));
            for (int x = 0; x < g.count(1); x++) entry(p, x);
        }
    }

    private void entry(int p, int x) {
        String call = "entry(" + p + ", " + x + ", ";
        for (int what = 0; what < 3; what++) tell(call + what + ")", g.entry(p, x, what));
        for (int i = 0; i < g.entry(p, x, 1); i++) {
            tell(call + (3 + i) + ")", g.entry(p, x, 3 + i));
            tell(call + (3 + i) + ") seen", g.seen());
        }
    }

    private void whatOnlyChangesTell() {
        tell("lay(0)", g.lay(0));
        for (int c = 20; c < 20 + g.count(0); c++) tell("close(" + c + ")", g.close(c));
        for (int word = 0; word < 9; word++) tell("box(4, " + word + ")", g.box(4, word));
        tell("sweep()", g.sweep());
    }
}
