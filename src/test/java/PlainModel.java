import java.util.ArrayList;
import java.util.HashMap;
import java.util.HashSet;
import java.util.List;
import java.util.Map;
import java.util.Set;
import java.util.TreeMap;

/**
 * The document told a second time, with maps and sets and without a care for
 * room or speed, so that long mixed runs have something to be compared with.
 */
final class PlainModel {
    private static final int[] NO_HOOK = {0, 0};

    private final List<Integer> restarts = new ArrayList<>();
    private final List<Set<Integer>> members = new ArrayList<>();
    private final List<List<long[]>> regions = new ArrayList<>();
    private final Set<Integer> endedApplications = new HashSet<>();
    private final List<Long> spacings = new ArrayList<>();
    private final List<Integer> owners = new ArrayList<>();
    private final Set<Integer> alive = new HashSet<>();
    private final TreeMap<Integer, Integer> held = new TreeMap<>();
    private final Map<Integer, int[]> hooks = new HashMap<>();
    private final Map<Integer, List<long[]>> arrivals = new HashMap<>();
    private final List<int[]> cleaned = new ArrayList<>();
    private final List<int[]> log = new ArrayList<>();
    private int delicate = 0;
    private boolean down = false;

    int application(int count) {
        if (count < 0 || count > 10) return -2;
        if (down) return -3;
        if (restarts.size() == 16) return -4;
        restarts.add(count);
        members.add(new java.util.TreeSet<>());
        regions.add(new ArrayList<>());
        return restarts.size();
    }

    int task(int application, long spacing) {
        if (application < 1 || application > restarts.size()) return -1;
        if (spacing < 0 || spacing > 1000000) return -2;
        if (down || endedApplications.contains(application)) return -3;
        if (owners.size() == 60) return -4;
        owners.add(application);
        spacings.add(spacing);
        int number = owners.size();
        members.get(application - 1).add(number);
        alive.add(number);
        arrivals.put(number, new ArrayList<>());
        return number;
    }

    int region(int application, long from, long n) {
        if (application < 1 || application > restarts.size()) return -1;
        long top = 1099511627776L;
        if (from < 0 || n < 1 || from > top || n > top) return -2;
        if (down) return -3;
        List<long[]> its = regions.get(application - 1);
        if (its.size() == 8) return -4;
        its.add(new long[] {from, from + n});
        return its.size();
    }

    int holds(int task, int kind, int what) {
        if (task < 1 || task > owners.size()) return -1;
        if (kind < 0 || kind > 3 || what < 1 || what > 32) return -2;
        if (down || held.containsKey(kind * 100 + what) || !alive.contains(task)) return -3;
        held.put(kind * 100 + what, task);
        return (int) held.values().stream().filter(holder -> holder == task).count();
    }

    int fault(int task, int kind) {
        if (task < 1 || task > owners.size()) return -1;
        if (kind < 1 || kind > 5) return -2;
        if (down || !alive.contains(task)) return -3;
        return happen(task, kind);
    }

    int cleaned(int i, int what) {
        return tell(cleaned, i, what, 3);
    }

    int log(int i, int what) {
        return tell(log, i, what, 4);
    }

    private static int tell(List<int[]> rows, int i, int what, int width) {
        if (i == -1 && what == 0) return rows.size();
        if (i < 0 || i >= Math.min(500, rows.size())) return -1;
        if (what < 0 || what >= width) return -2;
        return rows.get(i)[what];
    }

    int hook(int level, int does, boolean fails) {
        if (level < 0 || level > 2) return -1;
        if (does < 0 || does > 5) return -2;
        if (down) return -3;
        hooks.put(level, new int[] {does, fails ? 1 : 0});
        return 1;
    }

    /** Each arrival is kept whole: its time, and 1 came, 0 delayed, -1 fault. */
    int arrival(int task, long t) {
        if (task < 1 || task > owners.size()) return -1000;
        List<long[]> its = arrivals.get(task);
        long latest = 0;
        long came = -1;
        for (long[] one : its) {
            latest = Math.max(latest, one[0]);
            if (one[1] == 1) came = one[0];
        }
        if (t < latest) return -2000;
        if (down || !alive.contains(task)) return -3000;
        boolean early = came >= 0 && t - came < spacings.get(task - 1);
        if (!early) {
            its.add(new long[] {t, 1});
            return 1;
        }
        boolean delayedBefore = its.get(its.size() - 1)[1] == 0;
        its.add(new long[] {t, delayedBefore ? -1 : 0});
        return delayedBefore ? -happen(task, 4) : 0;
    }

    int trusted(int task, long address) {
        if (task < 1 || task > owners.size()) return -1;
        return regions.get(owners.get(task - 1) - 1).stream()
            .anyMatch(bounds -> address >= bounds[0] && address < bounds[1]) ? 1 : 0;
    }

    int access(int task, long address) {
        if (task < 1 || task > owners.size()) return -1000;
        if (down || !alive.contains(task)) return -3000;
        return trusted(task, address) == 1 ? 1 : -happen(task, 2);
    }

    int state(int application) {
        if (application < 1 || application > restarts.size()) return -1;
        if (down) return 2;
        return endedApplications.contains(application) ? 1 : 0;
    }

    private int happen(int task, int kind) {
        delicate = 0;
        int level = 0;
        int reaction = 0;
        while (level < 3 && reaction == 0) {
            int[] hook = hooks.getOrDefault(level, NO_HOOK);
            reaction = hook[1] == 1 ? 5 : hook[0];
            if (reaction == 0) level++;
        }
        if (level == 3) reaction = 2;
        int application = owners.get(task - 1);
        if (reaction == 2) end(task);
        if (reaction == 3 || reaction == 4) members.get(application - 1).forEach(this::end);
        if (reaction == 3) endedApplications.add(application);
        if (reaction == 4 && !down) reaction = again(application);
        if (reaction == 5) shut();
        if (down) reaction = 5;
        log.add(new int[] {task, kind, level, reaction});
        return reaction;
    }

    private int again(int application) {
        int left = restarts.get(application - 1);
        if (left == 0) {
            endedApplications.add(application);
            return 3;
        }
        restarts.set(application - 1, left - 1);
        alive.addAll(members.get(application - 1));
        return 4;
    }

    private void end(int task) {
        if (!alive.remove(task)) return;
        for (int thing : new ArrayList<>(held.keySet())) {
            if (down || held.get(thing) != task) continue;
            held.remove(thing);
            cleaned.add(new int[] {task, thing / 100, thing % 100});
            if (thing / 100 == 3) delicate++;
            if (delicate == 2) shut();
        }
    }

    private void shut() {
        down = true;
        alive.clear();
    }
}
