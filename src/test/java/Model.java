import java.util.ArrayList;
import java.util.Collections;
import java.util.List;
import java.util.Set;
import java.util.TreeMap;
import java.util.TreeSet;

/** The document's words once more, with sets and lists and no thought of speed. */
final class Model {
    private static final int NODES = 14;

    private record Event(int kind, int node, int time, int length) {
    }

    private final boolean[][] direct = new boolean[NODES][NODES];
    private final List<Event> log = new ArrayList<>();
    private final TreeMap<Integer, Set<Integer>> tickets = new TreeMap<>();
    private final TreeMap<Integer, Integer> merged = new TreeMap<>();
    private final Set<Integer> raised = new TreeSet<>();
    private int time = 0;
    private List<Integer> knownBest = null;

    boolean need(int node, int other) {
        node(node);
        node(other);
        if (node == other || depends(other, node)) {
            throw new IllegalArgumentException();
        }
        boolean isNew = !direct[node][other];
        direct[node][other] = true;
        knownBest = null;
        return isNew;
    }

    boolean release(int node, int other) {
        node(node);
        node(other);
        boolean was = direct[node][other];
        direct[node][other] = false;
        knownBest = null;
        return was;
    }

    boolean needs(int node, int other) {
        node(node);
        node(other);
        return direct[node][other];
    }

    boolean dependsOn(int node, int other) {
        node(node);
        node(other);
        return depends(node, other);
    }

    int height(int node) {
        node(node);
        int height = 0;
        for (int other = 0; other < NODES; other++) {
            if (direct[node][other]) {
                height = Math.max(height, 1 + height(other));
            }
        }
        return height;
    }

    int tick(int ticks) {
        range(ticks >= 1 && ticks <= 100);
        time += ticks;
        return time;
    }

    int now() {
        return time;
    }

    int raise(int node) {
        node(node);
        change(!raised.contains(node));
        TreeSet<Integer> joined = new TreeSet<>();
        for (int other : raised) {
            if (depends(node, other) || depends(other, node)) {
                joined.add(ticketOf(other));
            }
        }
        int number = joined.isEmpty() ? tickets.size() + 1 : joined.first();
        tickets.putIfAbsent(number, new TreeSet<>());
        for (int old : joined.tailSet(number, false)) {
            tickets.get(number).addAll(tickets.get(old));
            tickets.get(old).clear();
            merged.put(old, number);
        }
        tickets.get(number).add(node);
        raised.add(node);
        log.add(new Event(Alarmgrove.RAISED, node, time, -1));
        return number;
    }

    int clear(int node) {
        node(node);
        change(raised.contains(node));
        int start = 0;
        for (Event event : log) {
            start = event.node() == node && event.kind() == Alarmgrove.RAISED ? event.time() : start;
        }
        Set<Integer> mates = tickets.get(ticketOf(node));
        mates.remove(node);
        raised.remove(node);
        log.add(new Event(Alarmgrove.CLEARED, node, time, time - start));
        return mates.size();
    }

    int state(int node) {
        node(node);
        if (!raised.contains(node)) {
            return Alarmgrove.QUIET;
        }
        if (raises(node, 10) >= 3) {
            return Alarmgrove.FLAPPING;
        }
        boolean hidden = raised.stream().anyMatch(other -> depends(node, other));
        return hidden ? Alarmgrove.SUPPRESSED : Alarmgrove.SHOWN;
    }

    int nodesThatAre(int state) {
        range(state >= 0 && state <= 3);
        int count = 0;
        for (int node = 0; node < NODES; node++) {
            count += state(node) == state ? 1 : 0;
        }
        return count;
    }

    int raises(int node, int ticks) {
        node(node);
        range(ticks >= 1 && ticks <= 1000);
        return (int) log.stream().filter(event -> event.kind() == Alarmgrove.RAISED && event.node() == node
            && time - event.time() < ticks).count();
    }

    int events() {
        return log.size();
    }

    int eventKind(int event) {
        return at(log, event).kind();
    }

    int eventNode(int event) {
        return at(log, event).node();
    }

    int eventTime(int event) {
        return at(log, event).time();
    }

    int eventLength(int event) {
        return at(log, event).length();
    }

    int openTickets() {
        return (int) tickets.values().stream().filter(nodes -> !nodes.isEmpty()).count();
    }

    int ticketOf(int node) {
        node(node);
        for (int number : tickets.keySet()) {
            if (tickets.get(number).contains(node)) {
                return number;
            }
        }
        return Alarmgrove.NONE;
    }

    int ticketState(int number) {
        if (!tickets.containsKey(number)) {
            return Alarmgrove.UNUSED;
        }
        if (merged.containsKey(number)) {
            return Alarmgrove.MERGED;
        }
        return tickets.get(number).isEmpty() ? Alarmgrove.CLOSED : Alarmgrove.OPEN;
    }

    int ticketSize(int number) {
        return tickets.getOrDefault(number, Collections.emptySet()).size();
    }

    int mergedInto(int number) {
        return merged.getOrDefault(number, Alarmgrove.NONE);
    }

    boolean isPlausible(int node) {
        node(node);
        boolean isNeeded = false;
        for (int user = 0; user < NODES; user++) {
            if (direct[user][node]) {
                isNeeded = true;
                if (!raised.contains(user)) {
                    return raised.contains(node);
                }
            }
        }
        return isNeeded || raised.contains(node);
    }

    int causes() {
        return best().size();
    }

    int cause(int place) {
        return at(best(), place);
    }

    int causeByTrying(int place) {
        return at(best(), place);
    }

    int greedyCauses() {
        return greedy().size();
    }

    int greedyCause(int place) {
        return at(greedy(), place);
    }

    int causeOf(int node) {
        node(node);
        if (raised.contains(node)) {
            for (int cause : best()) {
                if (explains(cause, node)) {
                    return cause;
                }
            }
        }
        return Alarmgrove.NONE;
    }

    private List<Integer> best() {
        if (knownBest == null) {
            knownBest = new ArrayList<>();
            List<Integer> best = null;
            for (int bits = 0; bits < 1 << NODES; bits++) {
                if (best != null && Integer.bitCount(bits) > best.size()) {
                    continue;
                }
                List<Integer> set = new ArrayList<>();
                for (int node = 0; node < NODES; node++) {
                    if ((bits >> node) % 2 == 1) {
                        set.add(node);
                    }
                }
                if (isDiagnosis(set) && (best == null || isBetter(set, best))) {
                    best = set;
                }
            }
            knownBest = best;
        }
        return knownBest;
    }

    private boolean isDiagnosis(List<Integer> set) {
        return set.stream().allMatch(this::isPlausible)
            && raised.stream().allMatch(node -> set.stream().anyMatch(cause -> explains(cause, node)));
    }

    private boolean isBetter(List<Integer> set, List<Integer> other) {
        if (set.size() != other.size()) {
            return set.size() < other.size();
        }
        long known = set.stream().filter(raised::contains).count();
        long otherKnown = other.stream().filter(raised::contains).count();
        if (known != otherKnown) {
            return known > otherKnown;
        }
        for (int node = 0; node < NODES; node++) {
            if (set.contains(node) != other.contains(node)) {
                return set.contains(node);
            }
        }
        return false;
    }

    private List<Integer> greedy() {
        List<Integer> joined = new ArrayList<>();
        Set<Integer> open = new TreeSet<>(raised);
        while (!open.isEmpty()) {
            int next = -1;
            long mostPoints = 0;
            for (int node = 0; node < NODES; node++) {
                int cause = node;
                long count = open.stream().filter(one -> explains(cause, one)).count();
                long points = count * 1000 + (raised.contains(node) ? 100 : 0) + NODES - node;
                if (isPlausible(node) && count > 0 && points > mostPoints) {
                    next = node;
                    mostPoints = points;
                }
            }
            int chosen = next;
            joined.add(chosen);
            open.removeIf(one -> explains(chosen, one));
        }
        return joined;
    }

    private boolean explains(int cause, int node) {
        return cause == node || depends(node, cause);
    }

    private boolean depends(int node, int other) {
        for (int next = 0; next < NODES; next++) {
            if (direct[node][next] && (next == other || depends(next, other))) {
                return true;
            }
        }
        return false;
    }

    private void change(boolean isPossible) {
        knownBest = null;
        if (!isPossible || log.size() >= 300) {
            throw new IllegalStateException();
        }
    }

    private static void node(int node) {
        if (node < 0 || node > 13) {
            throw new IndexOutOfBoundsException();
        }
    }

    private static void range(boolean holds) {
        if (!holds) {
            throw new IllegalArgumentException();
        }
    }

    private static <T> T at(List<T> list, int place) {
        if (place < 0 || place >= list.size()) {
            throw new IndexOutOfBoundsException();
        }
        return list.get(place);
    }
}
