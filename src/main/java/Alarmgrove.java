/**
 * A correlator of alarms: nodes that need each other, alarms on them, tickets that merge,
 * and the fewest causes that explain all alarms.
 *
 * A set of nodes is an int whose bit n stands for node n: there are only 14 nodes, and so
 * no call needs room of its own for a set.
 */
public final class Alarmgrove {
    public static final int NONE = -1;
    public static final int QUIET = 0, SHOWN = 1, FLAPPING = 2, SUPPRESSED = 3;
    public static final int UNUSED = 0, OPEN = 1, CLOSED = 2, MERGED = 3;
    public static final int RAISED = 0, CLEARED = 1;

    private static final int NODES = 14;
    private static final int MOST_EVENTS = 300;
    private static final int MOST_TICKS_ON = 100;
    private static final int MOST_TICKS_BACK = 1000;
    private static final int FLAP_RAISES = 3;
    private static final int FLAP_TICKS = 10;

    private final Graph graph = new Graph();
    private final Log log = new Log();
    private final Tickets tickets = new Tickets();
    private int raised = 0;
    private int time = 0;

    public Alarmgrove() {
    }

    // ---- needs

    public boolean need(int node, int other) throws IndexOutOfBoundsException, IllegalArgumentException {
        checkNode(node);
        checkNode(other);
        if (node == other || has(graph.below(other), node)) {
            throw new IllegalArgumentException("a node would depend on itself");
        }
        return graph.link(node, other);
    }

    public boolean release(int node, int other) throws IndexOutOfBoundsException {
        checkNode(node);
        checkNode(other);
        return graph.unlink(node, other);
    }

    public boolean needs(int node, int other) throws IndexOutOfBoundsException {
        checkNode(node);
        checkNode(other);
        return has(graph.needed(node), other);
    }

    public boolean dependsOn(int node, int other) throws IndexOutOfBoundsException {
        checkNode(node);
        checkNode(other);
        return has(graph.below(node), other);
    }

    public int height(int node) throws IndexOutOfBoundsException {
        checkNode(node);
        return graph.longestWayDown(node);
    }

    // ---- time and alarms

    public int tick(int ticks) throws IllegalArgumentException {
        checkTicks(ticks, MOST_TICKS_ON);
        time += ticks;
        return time;
    }

    public int now() {
        return time;
    }

    public int raise(int node) throws IndexOutOfBoundsException, IllegalStateException {
        checkNode(node);
        checkChange(!has(raised, node));
        log.addRaise(node, time);
        int related = (graph.below(node) | graph.above(node)) & raised;
        raised |= only(node);
        return tickets.join(node, related);
    }

    public int clear(int node) throws IndexOutOfBoundsException, IllegalStateException {
        checkNode(node);
        checkChange(has(raised, node));
        log.addClear(node, time);
        raised &= ~only(node);
        return tickets.leave(node);
    }

    public int state(int node) throws IndexOutOfBoundsException {
        checkNode(node);
        return stateNow(node);
    }

    public int nodesThatAre(int state) throws IllegalArgumentException {
        if (state < QUIET || state > SUPPRESSED) {
            throw new IllegalArgumentException("no such state");
        }
        int count = 0;
        for (int node = 0; node < NODES; node++) {
            if (stateNow(node) == state) {
                count++;
            }
        }
        return count;
    }

    public int raises(int node, int ticks) throws IndexOutOfBoundsException, IllegalArgumentException {
        checkNode(node);
        checkTicks(ticks, MOST_TICKS_BACK);
        return log.raisesAfter(node, time - ticks);
    }

    private int stateNow(int node) {
        if (!has(raised, node)) {
            return QUIET;
        }
        if (log.raisesAfter(node, time - FLAP_TICKS) >= FLAP_RAISES) {
            return FLAPPING;
        }
        return (graph.below(node) & raised) != 0 ? SUPPRESSED : SHOWN;
    }

    // ---- events: each time an alarm was raised or cleared

    public int events() {
        return log.count();
    }

    public int eventKind(int event) throws IndexOutOfBoundsException {
        checkEvent(event);
        return log.kindAt(event);
    }

    public int eventNode(int event) throws IndexOutOfBoundsException {
        checkEvent(event);
        return log.nodeAt(event);
    }

    public int eventTime(int event) throws IndexOutOfBoundsException {
        checkEvent(event);
        return log.timeAt(event);
    }

    public int eventLength(int event) throws IndexOutOfBoundsException {
        checkEvent(event);
        return log.lengthAt(event);
    }

    // ---- tickets

    public int openTickets() {
        return tickets.countOpen();
    }

    public int ticketOf(int node) throws IndexOutOfBoundsException {
        checkNode(node);
        return tickets.numberOf(node);
    }

    public int ticketState(int number) {
        return tickets.stateOf(number);
    }

    public int ticketSize(int number) {
        return tickets.sizeOf(number);
    }

    public int mergedInto(int number) {
        return tickets.targetOf(number);
    }

    // ---- causes

    public boolean isPlausible(int node) throws IndexOutOfBoundsException {
        checkNode(node);
        return has(diagnoser().plausibleNodes(), node);
    }

    public int causes() {
        return Integer.bitCount(diagnoser().bestBySearch());
    }

    public int cause(int place) throws IndexOutOfBoundsException {
        return nodeThere(diagnoser().bestBySearch(), place);
    }

    public int causeByTrying(int place) throws IndexOutOfBoundsException {
        return nodeThere(diagnoser().bestByTrying(), place);
    }

    public int greedyCauses() {
        return diagnoser().greedyCount();
    }

    public int greedyCause(int place) throws IndexOutOfBoundsException {
        int node = diagnoser().greedyAt(place);
        if (node == NONE) {
            throw new IndexOutOfBoundsException("no such place");
        }
        return node;
    }

    public int causeOf(int node) throws IndexOutOfBoundsException {
        checkNode(node);
        if (!has(raised, node)) {
            return NONE;
        }
        return nodeAtPlace(diagnoser().bestBySearch() & graph.explainersOf(node), 0);
    }

    private Diagnoser diagnoser() {
        return new Diagnoser(graph, raised);
    }

    // ---- what a call refuses

    private static void checkNode(int node) {
        if (node < 0 || node >= NODES) {
            throw new IndexOutOfBoundsException("no such node");
        }
    }

    private static void checkTicks(int ticks, int most) {
        if (ticks < 1 || ticks > most) {
            throw new IllegalArgumentException("ticks out of range");
        }
    }

    private void checkChange(boolean isPossible) {
        if (!isPossible || log.isFull()) {
            throw new IllegalStateException("the alarm can't change");
        }
    }

    private void checkEvent(int event) {
        if (event < 0 || event >= log.count()) {
            throw new IndexOutOfBoundsException("no such event");
        }
    }

    private static int nodeThere(int set, int place) {
        int node = nodeAtPlace(set, place);
        if (node == NONE) {
            throw new IndexOutOfBoundsException("no such place");
        }
        return node;
    }

    // ---- sets of nodes

    private static int only(int node) {
        return 1 << node;
    }

    private static boolean has(int set, int node) {
        return (set & only(node)) != 0;
    }

    /** The node of a set at a place, 0 for the lowest one; NONE if there is no such place. */
    private static int nodeAtPlace(int set, int place) {
        int seen = 0;
        for (int node = 0; node < NODES; node++) {
            if (has(set, node)) {
                if (seen == place) {
                    return node;
                }
                seen++;
            }
        }
        return NONE;
    }

    /** Which nodes need which: the direct needs, and what follows from them. */
    private static final class Graph {
        private final int[] needed = new int[NODES];
        private final int[] users = new int[NODES];
        private final int[] below = new int[NODES];
        private final int[] above = new int[NODES];

        int needed(int node) {
            return needed[node];
        }

        int users(int node) {
            return users[node];
        }

        /** The nodes that a node depends on. */
        int below(int node) {
            return below[node];
        }

        /** The nodes that depend on a node. */
        int above(int node) {
            return above[node];
        }

        int explainersOf(int node) {
            return only(node) | below[node];
        }

        int explainedBy(int node) {
            return only(node) | above[node];
        }

        boolean link(int node, int other) {
            if (has(needed[node], other)) {
                return false;
            }
            needed[node] |= only(other);
            users[other] |= only(node);
            followAll();
            return true;
        }

        boolean unlink(int node, int other) {
            if (!has(needed[node], other)) {
                return false;
            }
            needed[node] &= ~only(other);
            users[other] &= ~only(node);
            followAll();
            return true;
        }

        int longestWayDown(int node) {
            int length = 0;
            int reached = step(needed, only(node));
            // No way passes a node twice, so none is longer than there are nodes.
            while (reached != 0 && length < NODES) {
                length++;
                reached = step(needed, reached);
            }
            return length;
        }

        private void followAll() {
            for (int node = 0; node < NODES; node++) {
                below[node] = follow(needed, node);
                above[node] = follow(users, node);
            }
        }

        private static int follow(int[] links, int node) {
            int found = 0;
            int reached = only(node);
            for (int length = 0; length < NODES && reached != 0; length++) {
                reached = step(links, reached);
                found |= reached;
            }
            return found;
        }

        private static int step(int[] links, int from) {
            int reached = 0;
            for (int node = 0; node < NODES; node++) {
                if (has(from, node)) {
                    reached |= links[node];
                }
            }
            return reached;
        }
    }

    /** What happened to the alarms. Whoever adds an event looks first that it is not full. */
    private static final class Log {
        private final int[] kinds = new int[MOST_EVENTS];
        private final int[] nodes = new int[MOST_EVENTS];
        private final int[] times = new int[MOST_EVENTS];
        private final int[] lengths = new int[MOST_EVENTS];
        private final int[] raisedAt = new int[NODES];
        private int count = 0;

        boolean isFull() {
            return count >= MOST_EVENTS;
        }

        int count() {
            return count;
        }

        int kindAt(int event) {
            return kinds[event];
        }

        int nodeAt(int event) {
            return nodes[event];
        }

        int timeAt(int event) {
            return times[event];
        }

        int lengthAt(int event) {
            return lengths[event];
        }

        void addRaise(int node, int time) {
            raisedAt[node] = time;
            add(RAISED, node, time, NONE);
        }

        void addClear(int node, int time) {
            add(CLEARED, node, time, time - raisedAt[node]);
        }

        int raisesAfter(int node, int start) {
            int raises = 0;
            for (int event = 0; event < count; event++) {
                if (kinds[event] == RAISED && nodes[event] == node && times[event] > start) {
                    raises++;
                }
            }
            return raises;
        }

        private void add(int kind, int node, int time, int length) {
            kinds[count] = kind;
            nodes[count] = node;
            times[count] = time;
            lengths[count] = length;
            count++;
        }
    }

    /** The tickets. Each new one comes with an event, so there are never more than events. */
    private static final class Tickets {
        private final int[] numbers = new int[NODES];
        private final int[] targets = new int[MOST_EVENTS + 1];
        private int newest = 0;

        Tickets() {
            for (int node = 0; node < NODES; node++) {
                numbers[node] = NONE;
            }
            for (int number = 0; number <= MOST_EVENTS; number++) {
                targets[number] = NONE;
            }
        }

        int numberOf(int node) {
            return numbers[node];
        }

        int stateOf(int number) {
            if (!isUsed(number)) {
                return UNUSED;
            }
            if (targets[number] != NONE) {
                return MERGED;
            }
            return sizeOf(number) > 0 ? OPEN : CLOSED;
        }

        int sizeOf(int number) {
            if (!isUsed(number)) {
                return 0;
            }
            int size = 0;
            for (int node = 0; node < NODES; node++) {
                if (numbers[node] == number) {
                    size++;
                }
            }
            return size;
        }

        int targetOf(int number) {
            return isUsed(number) ? targets[number] : NONE;
        }

        int countOpen() {
            int open = 0;
            for (int number = 1; number <= newest; number++) {
                if (stateOf(number) == OPEN) {
                    open++;
                }
            }
            return open;
        }

        /** Puts a node into the one ticket that the related nodes have then. */
        int join(int node, int related) {
            if (related == 0) {
                newest++;
                numbers[node] = newest;
            } else {
                numbers[node] = unite(related);
            }
            return numbers[node];
        }

        int leave(int node) {
            int number = numbers[node];
            numbers[node] = NONE;
            return sizeOf(number);
        }

        private boolean isUsed(int number) {
            return number >= 1 && number <= newest && number < targets.length;
        }

        private int unite(int related) {
            int lowest = newest;
            for (int node = 0; node < NODES; node++) {
                if (has(related, node)) {
                    lowest = Math.min(lowest, numbers[node]);
                }
            }
            for (int node = 0; node < NODES; node++) {
                if (has(related, node) && numbers[node] != lowest) {
                    merge(numbers[node], lowest);
                }
            }
            return lowest;
        }

        private void merge(int number, int target) {
            for (int node = 0; node < NODES; node++) {
                if (numbers[node] == number) {
                    numbers[node] = target;
                }
            }
            if (isUsed(number)) {
                targets[number] = target;
            }
        }
    }

    /** Finds the diagnoses for the alarms of one moment. */
    private static final class Diagnoser {
        private final Graph graph;
        private final int raised;
        private final int plausible;

        Diagnoser(Graph graph, int raised) {
            this.graph = graph;
            this.raised = raised;
            this.plausible = plausibleOf(graph, raised);
        }

        int plausibleNodes() {
            return plausible;
        }

        /** The raised nodes themselves are always a diagnosis, so the search starts from them. */
        int bestBySearch() {
            return search(this, 0, 0, raised, plausible, raised);
        }

        /** Sets with other than plausible nodes are no diagnoses, so they are left out at once. */
        int bestByTrying() {
            int best = raised;
            int sets = 1 << Integer.bitCount(plausible);
            int set = 0;
            for (int tried = 0; tried < sets; tried++) {
                if (isBetter(set, best) && explainsAll(set)) {
                    best = set;
                }
                // The next greater number that has no bits beside those of plausible.
                set = (set - plausible) & plausible;
            }
            return best;
        }

        int greedyCount() {
            int unexplained = raised;
            int count = 0;
            while (unexplained != 0 && count < NODES) {
                unexplained &= ~graph.explainedBy(greedyNext(unexplained));
                count++;
            }
            return count;
        }

        int greedyAt(int place) {
            int unexplained = raised;
            for (int joined = 0; joined < NODES && unexplained != 0; joined++) {
                int node = greedyNext(unexplained);
                if (joined == place) {
                    return node;
                }
                unexplained &= ~graph.explainedBy(node);
            }
            return NONE;
        }

        private int greedyNext(int unexplained) {
            int next = 0;
            int most = 0;
            for (int node = 0; node < NODES; node++) {
                int count = has(plausible, node) ? Integer.bitCount(graph.explainedBy(node) & unexplained) : 0;
                boolean winsTie = count == most && has(raised, node) && !has(raised, next);
                if (count > most || (count > 0 && winsTie)) {
                    next = node;
                    most = count;
                }
            }
            return next;
        }

        /**
         * Some node must explain the lowest raised node that is unexplained: each one that may do so
         * is tried, and then barred, so that no set comes up twice.
         */
        private static int search(Diagnoser of, int depth, int chosen, int unexplained, int allowed, int best) {
            int node = nodeAtPlace(unexplained, 0);
            if (node == NONE) {
                return of.isBetter(chosen, best) ? chosen : best;
            }
            int found = best;
            int left = allowed;
            int tries = of.graph.explainersOf(node) & allowed;
            for (int next = 0; next < NODES; next++) {
                boolean mayBeBest = depth < NODES && depth < Integer.bitCount(found);
                if (has(tries, next) && mayBeBest) {
                    left &= ~only(next);
                    int rest = unexplained & ~of.graph.explainedBy(next);
                    found = search(of, depth + 1, chosen | only(next), rest, left, found);
                }
            }
            return found;
        }

        private boolean isBetter(int set, int other) {
            int size = Integer.bitCount(set);
            int otherSize = Integer.bitCount(other);
            if (size != otherSize) {
                return size < otherSize;
            }
            int known = Integer.bitCount(set & raised);
            int otherKnown = Integer.bitCount(other & raised);
            if (known != otherKnown) {
                return known > otherKnown;
            }
            int lowestDifferent = nodeAtPlace(set ^ other, 0);
            return lowestDifferent != NONE && has(set, lowestDifferent);
        }

        private boolean explainsAll(int set) {
            for (int node = 0; node < NODES; node++) {
                if (has(raised, node) && (graph.explainersOf(node) & set) == 0) {
                    return false;
                }
            }
            return true;
        }

        private static int plausibleOf(Graph graph, int raised) {
            int plausible = raised;
            for (int node = 0; node < NODES; node++) {
                int users = graph.users(node);
                if (users != 0 && (users & ~raised) == 0) {
                    plausible |= only(node);
                }
            }
            return plausible;
        }
    }
}
