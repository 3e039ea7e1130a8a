/** What stands ahead of promise 1 about causes, and the sentences of promises 24 to 30. */
final class BoundsOfCauses {
    private static final String THROWS_NO_NODE = "Throws IndexOutOfBoundsException if there is no such node";
    private static final int[] ALL_NODES = {0, 1, 2, 3, 4, 5, 6, 7, 8, 9, 10, 11, 12, 13};

    private final Check check;
    private final Expect expect;

    BoundsOfCauses(Check check) {
        this.check = check;
        this.expect = new Expect(check);
    }

    void all() {
        plausibleNodes();
        whatANodeExplains();
        plausibleNodesAlone();
        eachRaisedNodeIsExplained();
        fewerNodesAreBetter();
        moreRaisedNodesAreBetter();
        theLowestNodeDecides();
        betterThanAllOthers();
        emptyWithoutRaisedNodes();
        greedyTakesWhatExplainsMost();
        greedyAmongEquals();
        isPlausible();
        causes();
        placesOfTheBest();
        placesOfTheGreedy();
        causeOf();
        causeOfTheLowest();
    }

    private void plausibleNodes() {
        check.under(0, "A node is plausible if it is raised, or if at least one node needs it directly "
            + "and all nodes that need it directly are raised");
        Alarmgrove x = Grove.with(new int[][] {{12, 1}, {13, 1}, {1, 0}, {11, 10}}, 10, 12);
        duePlausible(x, 10, true, "raised, though 11 that needs it is quiet");
        duePlausible(x, 12, true, "raised, though no node needs it");
        duePlausible(x, 11, false, "quiet, needed by none, above a raised node");
        duePlausible(x, 1, false, "quiet, needed by raised 12 and by quiet 13");
        duePlausible(x, 5, false, "quiet, of no relation");
        x.raise(13);
        duePlausible(x, 1, true, "quiet, needed by raised 12 and 13");
        duePlausible(x, 0, false, "quiet, needed by quiet 1 alone, and indirectly by raised ones");
        x.need(13, 0);
        duePlausible(x, 0, false, "quiet, needed by quiet 1 and by raised 13");
        x.release(1, 0);
        duePlausible(x, 0, true, "quiet, needed by raised 13 alone");
        x.release(13, 0);
        duePlausible(x, 0, false, "quiet, needed by none any more");
    }

    private void duePlausible(Alarmgrove x, int node, boolean due, String why) {
        check.due("isPlausible(" + node + ") that is " + why, x.isPlausible(node), due);
    }

    private void whatANodeExplains() {
        check.under(0, "A node explains itself and all nodes that depend on it");
        expect.best("a raised node alone", Grove.with(new int[][] {{5, 4}}, 5), 5);
        expect.best("a node explains those above it, quiet ones between", Grove.with(new int[][] {{2, 1}, {1, 0}}, 0, 2), 0);
        check.due("causeOf(2) above quiet 1", Grove.with(new int[][] {{2, 1}, {1, 0}}, 0, 2).causeOf(2), 0);
        Alarmgrove x = Grove.made(Grove::chain);
        x.raise(0);
        x.raise(13);
        expect.best("the ends of a chain of 14", x, 13);
        expect.best("two with the same need", Grove.with(new int[][] {{5, 4}, {6, 4}, {7, 4}}, 5, 6), 5, 6);
    }

    private void plausibleNodesAlone() {
        check.under(0, "A set of plausible nodes is a diagnosis if each raised node is explained by a node of the set");
        Alarmgrove x = Grove.with(new int[][] {{5, 1}, {6, 1}, {7, 1}}, 5, 6);
        expect.best("1 would explain both, but is not plausible", x, 5, 6);
        expect.greedy("1 would explain both, but is not plausible", x, 5, 6);
        x.raise(3);
        x.raise(9);
        expect.best("1 is not plausible beside other causes either", x, 3, 5, 6, 9);
        x.clear(3);
        x.clear(9);
        x.raise(7);
        expect.best("1 is plausible", x, 1);
        expect.greedy("1 is plausible", x, 1);
        for (int below : new int[] {0, 13}) {
            Alarmgrove y = Grove.with(new int[][] {{5, below}, {6, below}, {7, below}}, 5, 6);
            expect.best("the first node or the last would explain both, but is not plausible", y, 5, 6);
            expect.greedy("the first node or the last would explain both, but is not plausible", y, 5, 6);
        }
    }

    private void eachRaisedNodeIsExplained() {
        check.under(0, "A set of plausible nodes is a diagnosis if each raised node is explained by a node of the set");
        expect.best("14 nodes of no relation", Grove.made(Grove::raiseAll), ALL_NODES);
        Alarmgrove x = Grove.with(new int[][] {{0, 6}, {1, 6}, {12, 7}, {13, 7}}, 0, 1, 12, 13, 5);
        expect.best("the first and the last nodes", x, 5, 6, 7);
    }

    private static final String BETTER = "One diagnosis is better than another one if it has fewer nodes; "
        + "with as many nodes, if more of its nodes are raised; "
        + "with as many of these, if the lowest node that is in just one of both sets is in it";

    private void fewerNodesAreBetter() {
        check.under(0, BETTER);
        expect.best("one quiet node before two raised ones", Grove.with(new int[][] {{0, 13}, {1, 13}}, 0, 1), 13);
        Alarmgrove x = Grove.with(new int[][] {{8, 5}, {9, 5}, {10, 5}, {11, 5}, {8, 6}, {9, 6}, {12, 6},
            {10, 7}, {11, 7}, {13, 7}}, 8, 9, 10, 11, 12, 13);
        expect.best("two quiet nodes before three", x, 6, 7);
    }

    private void moreRaisedNodesAreBetter() {
        check.under(0, BETTER);
        expect.best("13 itself before quiet 0", Grove.with(new int[][] {{13, 0}}, 13), 13);
        expect.best("raised 13 before quiet 0", Grove.with(new int[][] {{5, 0}, {6, 0}, {5, 13}, {6, 13}}, 5, 6, 13), 13);
        Alarmgrove x = Grove.with(new int[][] {{6, 0}, {7, 0}, {7, 1}, {8, 1}, {8, 2}, {6, 2}}, 6, 7, 8);
        expect.best("a raised node and a quiet one before two quiet ones", x, 0, 8);
        Alarmgrove y = Grove.with(new int[][] {{10, 0}, {11, 0}, {10, 1}, {12, 1}, {13, 1}}, 10, 11, 12, 13);
        expect.best("quiet 1 and raised 11 before quiet 1 and quiet 0", y, 1, 11);
        Alarmgrove z = Grove.with(new int[][] {{5, 2}, {6, 2}, {7, 3}, {8, 3}, {6, 9}, {7, 9}}, 5, 6, 7, 8, 9);
        expect.best("three raised nodes before the lower quiet 2 and 3 with 9", z, 5, 8, 9);
    }

    private void theLowestNodeDecides() {
        check.under(0, BETTER);
        expect.best("0 before 13", Grove.with(new int[][] {{6, 0}, {7, 0}, {6, 13}, {7, 13}}, 6, 7), 0);
        expect.best("12 before 13", Grove.with(new int[][] {{6, 12}, {7, 12}, {6, 13}, {7, 13}}, 6, 7), 12);
        Alarmgrove x = Grove.with(new int[][] {{8, 0}, {9, 0}, {10, 5}, {11, 5}, {8, 1}, {10, 1}, {9, 4}, {11, 4}},
            8, 9, 10, 11);
        expect.best("0 and 5 before 1 and 4", x, 0, 5);
        Alarmgrove y = Grove.with(new int[][] {{8, 0}, {9, 0}, {10, 4}, {11, 4}, {10, 3}, {11, 3}}, 8, 9, 10, 11);
        expect.best("0 in both, 3 before 4", y, 0, 3);
        Alarmgrove z = Grove.with(new int[][] {{9, 1}, {10, 1}, {9, 13}, {10, 13}}, 1, 13, 9, 10);
        expect.best("both raised 1 and 13 are due, for each needs itself", z, 1, 13);
    }

    private void betterThanAllOthers() {
        check.under(0, "The best diagnosis is better than all others");
        int[][] ring = {{7, 0}, {8, 0}, {8, 1}, {9, 1}, {9, 2}, {10, 2}, {10, 3}, {11, 3}, {11, 4}, {12, 4},
            {12, 5}, {13, 5}, {13, 6}, {7, 6}};
        Alarmgrove x = Grove.with(ring, 7, 8, 9, 10, 11, 12, 13);
        expect.best("a ring of seven: three quiet nodes and a raised one", x, 0, 2, 4, 13);
        x.clear(13);
        expect.best("a ring with a gap: three quiet nodes", x, 0, 2, 4);
    }

    private void emptyWithoutRaisedNodes() {
        check.under(0, "Without raised nodes it is the empty set");
        expect.best("a new object", new Alarmgrove());
        Alarmgrove x = Grove.made(Grove::chain);
        expect.best("needs alone", x);
        Grove.flutter(x, 4, 4);
        expect.best("alarms that were cleared", x);
        expect.greedy("alarms that were cleared", x);
    }

    private static final String GREEDY = "The greedy diagnosis is made so: as long as some raised node is not explained, "
        + "the plausible node joins it that explains the most raised nodes that are not explained yet; "
        + "of several such, one that is raised before one that is not, and then the one with the lowest number";

    private void greedyTakesWhatExplainsMost() {
        check.under(0, GREEDY);
        Alarmgrove x = Grove.with(new int[][] {{8, 5}, {9, 5}, {10, 5}, {11, 5}, {8, 6}, {9, 6}, {12, 6},
            {10, 7}, {11, 7}, {13, 7}}, 8, 9, 10, 11, 12, 13);
        expect.greedy("6 and 7 explain one each that is not explained yet", x, 5, 12, 13);
        Alarmgrove y = Grove.with(new int[][] {{7, 6}, {8, 6}, {8, 0}, {9, 0}, {0, 1}, {2, 8}, {3, 8}, {4, 8},
            {10, 5}, {11, 5}, {12, 5}}, 7, 8, 10, 11, 12);
        expect.greedy("5 explains three raised nodes, 6 two and many quiet ones", y, 5, 6);
        expect.greedy("14 nodes of no relation", Grove.made(Grove::raiseAll), ALL_NODES);
        Alarmgrove z = Grove.with(new int[][] {{0, 12}, {1, 12}, {2, 12}, {3, 13}, {4, 13}}, 0, 1, 2, 3, 4, 5);
        expect.greedy("three, two, one", z, 12, 13, 5);
    }

    private void greedyAmongEquals() {
        check.under(0, GREEDY);
        expect.greedy("13 itself before quiet 0", Grove.with(new int[][] {{13, 0}}, 13), 13);
        int[][] both = {{5, 1}, {6, 1}, {5, 9}, {6, 9}, {9, 0}};
        expect.greedy("quiet 1 before quiet 9", Grove.with(both, 5, 6), 1);
        expect.greedy("9 explains itself too", Grove.with(both, 5, 6, 9), 9);
        Alarmgrove x = Grove.with(new int[][] {{5, 1}, {6, 1}, {5, 13}}, 13, 5, 6);
        expect.greedy("raised 13 before quiet 1, with two each", x, 13, 6);
        Alarmgrove y = Grove.with(new int[][] {{5, 2}, {6, 3}}, 3, 2, 6, 5);
        expect.greedy("raised 2 before raised 3", y, 2, 3);
        Alarmgrove z = Grove.with(new int[][] {{5, 0}, {6, 0}, {6, 1}, {7, 1}}, 5, 6, 7);
        expect.greedy("quiet 0 before quiet 1, then 7 itself before quiet 1", z, 0, 7);
    }

    private void isPlausible() {
        check.under(24, "Tells whether a node is plausible");
        Alarmgrove x = Grove.with(new int[][] {{13, 0}, {12, 5}, {11, 5}}, 13, 12);
        duePlausible(x, 13, true, "raised");
        duePlausible(x, 0, true, "needed by raised 13");
        duePlausible(x, 5, false, "needed by quiet 11 too");
        x.clear(13);
        duePlausible(x, 0, false, "needed by quiet 13");
        check.under(24, THROWS_NO_NODE);
        expect.nodesAlone("isPlausible", Grove::raiseAll, (y, node) -> Check.asLong(y.isPlausible(node)));
    }

    private void causes() {
        check.under(25, "Returns how many nodes the best diagnosis has, found by a search");
        check.due("causes() without alarms", new Alarmgrove().causes(), 0);
        check.due("causes() of one alarm", Grove.with(new int[][] {}, 13).causes(), 1);
        check.due("causes() of 14 alarms of no relation", Grove.made(Grove::raiseAll).causes(), 14);
        check.due("causes() of 14 alarms in a chain", chainOfAlarms().causes(), 1);
        check.under(28, "Returns how many nodes the greedy diagnosis has");
        check.due("greedyCauses() without alarms", new Alarmgrove().greedyCauses(), 0);
        check.due("greedyCauses() of one alarm", Grove.with(new int[][] {}, 13).greedyCauses(), 1);
        check.due("greedyCauses() of 14 alarms of no relation", Grove.made(Grove::raiseAll).greedyCauses(), 14);
        check.due("greedyCauses() of 14 alarms in a chain", chainOfAlarms().greedyCauses(), 1);
    }

    private static Alarmgrove chainOfAlarms() {
        return Grove.made(x -> {
            Grove.chain(x);
            Grove.raiseAll(x);
        });
    }

    private void placesOfTheBest() {
        placesOf(26, Alarmgrove::cause, new int[] {4, 7, 13}, "place: 0 for the lowest one",
            "Returns a node of the best diagnosis, found by a search",
            "Throws IndexOutOfBoundsException if it has no such node");
        placesOf(27, Alarmgrove::causeByTrying, new int[] {4, 7, 13}, "place: 0 for the lowest one",
            "Returns the same, found by trying all sets of nodes",
            "Throws IndexOutOfBoundsException if the best diagnosis has no such node");
    }

    private void placesOfTheGreedy() {
        placesOf(29, Alarmgrove::greedyCause, new int[] {13, 4, 7}, "place: 0 for the one that joined first",
            "Returns a node of the greedy diagnosis",
            "Throws IndexOutOfBoundsException if it has no such node");
    }

    /** Three causes: 13, quiet, explains 0 and 1, and 4 and 7 explain themselves. */
    private void placesOf(int promise, Expect.NodeCall call, int[] due, String first, String returns, String refuses) {
        Alarmgrove x = Grove.with(new int[][] {{0, 13}, {1, 13}}, 1, 7, 0, 4);
        check.under(promise, first);
        check.due("the first of three", call.of(x, 0), due[0]);
        check.under(promise, returns);
        check.due("the second of three", call.of(x, 1), due[1]);
        check.due("the third of three", call.of(x, 2), due[2]);
        check.under(promise, refuses);
        expect.places("three", x, call, due);
        expect.places("none", new Alarmgrove(), call);
        expect.places("all", Grove.made(Grove::raiseAll), call, ALL_NODES);
    }

    private void causeOf() {
        check.under(30, "Returns the node; NONE if the given one is not raised");
        Alarmgrove x = Grove.with(new int[][] {{0, 13}, {1, 13}, {2, 1}}, 0, 1);
        expect.best("quiet 13 explains both", x, 13);
        check.due("causeOf(0)", x.causeOf(0), 13);
        check.due("causeOf(1)", x.causeOf(1), 13);
        check.due("causeOf(13), in the best diagnosis but quiet", x.causeOf(13), Alarmgrove.NONE);
        check.due("causeOf(2), explained but quiet", x.causeOf(2), Alarmgrove.NONE);
        check.due("causeOf(5) of a new object", new Alarmgrove().causeOf(5), Alarmgrove.NONE);
        check.under(30, THROWS_NO_NODE);
        expect.nodesAlone("causeOf", Grove::raiseAll, Alarmgrove::causeOf);
        expect.nodesAlone("causeOf without alarms", y -> { }, Alarmgrove::causeOf);
    }

    private void causeOfTheLowest() {
        check.under(30, "Returns the node of the best diagnosis that explains a raised node; "
            + "of several such the lowest one");
        Alarmgrove x = Grove.with(new int[][] {{0, 13}, {0, 12}, {0, 11}}, 13, 12, 0, 3);
        expect.best("two of three below 0, and 3", x, 3, 12, 13);
        check.due("causeOf(0), explained by two, and not by the lowest of all", x.causeOf(0), 12);
        check.due("causeOf(12)", x.causeOf(12), 12);
        check.due("causeOf(13)", x.causeOf(13), 13);
        check.due("causeOf(3)", x.causeOf(3), 3);
        Alarmgrove y = Grove.with(new int[][] {{5, 3}, {5, 1}, {3, 0}, {1, 0}}, 5, 3, 1);
        expect.best("0 below all", y, 0);
        check.due("causeOf(5), which raised 1 and 3 would explain too", y.causeOf(5), 0);
    }
}
