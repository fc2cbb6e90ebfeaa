import java.util.Arrays;
import java.util.Map;
import java.util.TreeMap;
import java.util.TreeSet;

/** Which calls long runs asked and what these answered, so that a run that mixes little does not pass for one that mixes all. */
final class Tally {
    /** The calls of each group, as the document heads them; behind each those answers below 0 that it can have. */
    private static final String[][] GROUPS = {
        {"classes", "face FULL", "kind OUTSIDE FULL", "component UNKNOWN STATE FULL", "close UNKNOWN STATE",
            "rowOf UNKNOWN OUTSIDE FULL", "about NONE UNKNOWN OUTSIDE", "is UNKNOWN"},
        {"things", "make UNKNOWN OUTSIDE FULL SIZE", "multi UNKNOWN OUTSIDE FULL SIZE", "record UNKNOWN OUTSIDE STATE FULL",
            "box OUTSIDE FULL", "seal UNKNOWN CAST SEALED", "get UNKNOWN NULL INDEX",
            "put UNKNOWN OUTSIDE NULL CAST SEALED INDEX UNLIKE", "set UNKNOWN NULL CAST SEALED INDEX UNLIKE STORE",
            "copy UNKNOWN NULL CAST STORE INDEX", "length UNKNOWN NULL", "classOf UNKNOWN NULL", "sealed UNKNOWN NULL",
            "shallow UNKNOWN NULL FULL", "deep UNKNOWN NULL FULL", "seen"},
        {"likeness", "like UNKNOWN NULL", "hash UNKNOWN NULL", "least UNKNOWN NULL", "groups"},
        {"roots", "name NONE UNKNOWN", "root NONE UNKNOWN", "path NONE UNKNOWN NULL INDEX UNLIKE", "sweep"},
        {"pictures", "photo FULL", "picture NONE UNKNOWN OUTSIDE", "entry UNKNOWN OUTSIDE NONE INDEX", "differ UNKNOWN FULL",
            "edit", "lay UNKNOWN STATE FULL MISFIT", "misfit NONE", "merge UNKNOWN FULL CONFLICTS", "conflict NONE",
            "restore UNKNOWN FULL"},
        {"what is told", "finding", "findings OUTSIDE", "count OUTSIDE", "digest"}};
    private static final Map<Long, String> ANSWERS = new TreeMap<>(Map.ofEntries(Map.entry(-1L, "NONE"),
            Map.entry(-11L, "NULL"), Map.entry(-12L, "INDEX"), Map.entry(-13L, "SIZE"), Map.entry(-14L, "STORE"),
            Map.entry(-15L, "UNLIKE"), Map.entry(-16L, "CAST"), Map.entry(-17L, "SEALED"), Map.entry(-18L, "MISFIT"),
            Map.entry(-101L, "UNKNOWN"), Map.entry(-102L, "OUTSIDE"), Map.entry(-103L, "STATE"), Map.entry(-104L, "FULL"),
            Map.entry(-105L, "CONFLICTS")));

    /** What no single answer shows. */
    private static final String[] NOTES = {"MISFIT of an EDIT", "MISFIT behind all", "CONFLICT 0", "CONFLICT 2", "CONFLICT 3",
        "CONFLICT 4", "more than 60 CONFLICTS"};

    private final Checks checks;
    private final TreeSet<String> notes = new TreeSet<>();
    private final Map<String, TreeMap<String, Integer>> met = new TreeMap<>();
    private final int[] ofThisRun = new int[GROUPS.length];
    private final int[] ofLastCalls = new int[GROUPS.length];

    Tally(Checks checks) {
        this.checks = checks;
    }

    static int groupCount() {
        return GROUPS.length;
    }

    private static int groupOf(String name) {
        for (int group = 0; group < GROUPS.length; group++) {
            for (int at = 1; at < GROUPS[group].length; at++) {
                if (GROUPS[group][at].split(" ")[0].equals(name)) return group;
            }
        }
        throw new IllegalStateException("the document has no call " + name);
    }

    void add(String name, long answer, int call) {
        met.computeIfAbsent(name, n -> new TreeMap<>()).merge(ANSWERS.getOrDefault(answer, "goes"), 1, Integer::sum);
        int group = groupOf(name);
        ofThisRun[group]++;
        if (call == Pair.MOST_CALLS) ofLastCalls[group]++;
    }

    void note(String what) {
        notes.add(what);
    }

    /** A run has calls of all groups. */
    void endRun(String title) {
        for (int group = 0; group < GROUPS.length; group++) {
            checks.due(title + ": it has calls of " + GROUPS[group][0], ofThisRun[group] > 0 ? 1 : 0, 1);
        }
        Arrays.fill(ofThisRun, 0);
    }

    /** All runs together have met each answer that a call can have, and each group with the last call of an object. */
    void end() {
        for (int group = 0; group < GROUPS.length; group++) {
            checks.due("last calls of " + GROUPS[group][0] + " were asked", ofLastCalls[group] > 0 ? 1 : 0, 1);
            for (int at = 1; at < GROUPS[group].length; at++) allMet(GROUPS[group][at].split(" "));
        }
        for (String note : NOTES) checks.due("runs met " + note, notes.contains(note) ? 1 : 0, 1);
    }

    private void allMet(String[] row) {
        TreeMap<String, Integer> answers = met.getOrDefault(row[0], new TreeMap<>());
        TreeSet<String> due = new TreeSet<>(Arrays.asList(row));
        due.remove(row[0]);
        due.add("goes");
        for (String answer : due) {
            checks.due(row[0] + " met " + answer, answers.containsKey(answer) ? 1 : 0, 1);
        }
        if (row[0].equals("seen") || row[0].equals("edit") || row[0].equals("digest")) return;
        for (String answer : answers.keySet()) {
            checks.due(row[0] + " may answer " + answer, due.contains(answer) ? 1 : 0, 1);
        }
    }
}
