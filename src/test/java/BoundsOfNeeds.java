/** The sentences of promises 1 to 6. */
final class BoundsOfNeeds {
    private static final Class<IndexOutOfBoundsException> NO_NODE = IndexOutOfBoundsException.class;
    private static final Class<IllegalArgumentException> NOT_SO = IllegalArgumentException.class;
    private static final String THROWS_NO_NODE = "Throws IndexOutOfBoundsException if there is no such node";

    private final Check check;
    private final Expect expect;

    BoundsOfNeeds(Check check) {
        this.check = check;
        this.expect = new Expect(check);
    }

    void all() {
        newObject();
        needFromNowOn();
        needTellsWhetherNew();
        needRefusesItselfAndRounds();
        releaseTakesBack();
        needsTellsDirectOnes();
        dependsOnTells();
        heightOfAll();
        heightIsTheGreatest();
        noSuchNode();
    }

    private void newObject() {
        check.under(1, "All nodes are quiet, and no node needs another one");
        Alarmgrove used = Grove.made(x -> {
            Grove.chain(x);
            Grove.raiseAll(x);
            x.tick(50);
        });
        Alarmgrove x = new Alarmgrove();
        for (int node = 0; node < 14; node++) {
            check.due("state(" + node + ") of a new object beside a used one", x.state(node), Alarmgrove.QUIET);
            check.due("height(" + node + ") of a new object beside a used one", x.height(node), 0);
            for (int other = 0; other < 14; other++) {
                check.due("needs of a new object beside a used one", x.needs(node, other), false);
            }
        }
        check.due("now() of a new object beside a used one", x.now(), 0);
        check.due("events() of a new object beside a used one", x.events(), 0);
        check.due("ticketState(1) of a new object beside a used one", x.ticketState(1), Alarmgrove.UNUSED);
        x.raise(0);
        x.need(13, 0);
        check.due("events() of the used one", used.events(), 14);
        check.due("needs(13, 0) of the used one", used.needs(13, 0), false);
    }

    private void needFromNowOn() {
        check.under(2, "A node needs another one directly from now on");
        Alarmgrove x = new Alarmgrove();
        x.need(0, 13);
        x.need(12, 1);
        check.due("needs(0, 13)", x.needs(0, 13), true);
        check.due("needs(12, 1)", x.needs(12, 1), true);
        check.due("needs(13, 0), the other way", x.needs(13, 0), false);
        Grove.tickOften(x, 100, 100);
        check.due("needs(0, 13) long after", x.needs(0, 13), true);
    }

    private void needTellsWhetherNew() {
        check.under(2, "Returns whether it did not yet");
        Alarmgrove x = new Alarmgrove();
        check.due("need(0, 13) first", x.need(0, 13), true);
        check.due("need(0, 13) again", x.need(0, 13), false);
        check.due("needs(0, 13) after both", x.needs(0, 13), true);
        x.need(5, 0);
        check.due("need(5, 13) that was indirect alone", x.need(5, 13), true);
        x.release(5, 13);
        check.due("need(5, 13) after its release", x.need(5, 13), true);
        check.due("need(5, 13) again after its release", x.need(5, 13), false);
    }

    private void needRefusesItselfAndRounds() {
        check.under(2, "Throws IllegalArgumentException if both are the same, or other depends on node");
        Alarmgrove x = new Alarmgrove();
        for (int node = 0; node < 14; node++) {
            int one = node;
            check.dueThrow("need(" + node + ", itself)", NOT_SO, () -> Check.asLong(x.need(one, one)));
        }
        Grove.chain(x);
        for (int node = 0; node < 13; node++) {
            int upper = node;
            check.dueThrow("need(13, " + node + ") at a chain's end", NOT_SO, () -> Check.asLong(x.need(13, upper)));
            check.dueThrow("need(" + (node + 1) + ", 0) in a chain", NOT_SO, () -> Check.asLong(x.need(upper + 1, 0)));
        }
        check.due("need(0, 13), which depends already but the right way", x.need(0, 13), true);
        x.release(0, 13);
        x.release(6, 7);
        check.due("need(13, 0) when the chain is cut", x.need(13, 0), true);
        check.dueThrow("need(6, 7) that would close the chain the other way", NOT_SO, () -> Check.asLong(x.need(6, 7)));
    }

    private void releaseTakesBack() {
        check.under(3, "A node does not need another one directly any more");
        Alarmgrove x = Grove.with(new int[][] {{0, 13}, {0, 12}, {13, 12}});
        x.release(0, 13);
        check.due("needs(0, 13) after release", x.needs(0, 13), false);
        check.due("needs(0, 12) beside it", x.needs(0, 12), true);
        check.due("dependsOn(0, 13) after release", x.dependsOn(0, 13), false);
        check.due("dependsOn(0, 12) by the direct need", x.dependsOn(0, 12), true);
        check.due("height(0) after release", x.height(0), 1);
        check.due("need(13, 0) is free after release", x.need(13, 0), true);
        check.under(3, "Returns whether it did");
        check.due("release(0, 13) again", x.release(0, 13), false);
        check.due("release(12, 0), the other way", x.release(12, 0), false);
        check.due("release(0, 12)", x.release(0, 12), true);
        check.due("release(7, 7) of itself", x.release(7, 7), false);
        Alarmgrove y = Grove.made(Grove::chain);
        check.due("release(0, 2) of an indirect need", y.release(0, 2), false);
        check.due("dependsOn(0, 2) after it", y.dependsOn(0, 2), true);
    }

    private void needsTellsDirectOnes() {
        check.under(4, "Tells whether a node needs another one directly");
        Alarmgrove x = Grove.made(Grove::chain);
        for (int node = 0; node < 14; node++) {
            for (int other = 0; other < 14; other++) {
                check.due("needs(" + node + ", " + other + ") in a chain", x.needs(node, other), other == node + 1);
            }
        }
    }

    private void dependsOnTells() {
        check.under(5, "Tells whether a node depends on another one");
        Alarmgrove x = Grove.made(Grove::chain);
        for (int node = 0; node < 14; node++) {
            for (int other = 0; other < 14; other++) {
                check.due("dependsOn(" + node + ", " + other + ") in a chain", x.dependsOn(node, other), other > node);
            }
        }
    }

    private static final String HEIGHT = "Returns the height of a node: 0 if it needs no other one, "
        + "otherwise 1 more than the greatest height of those that it needs directly";

    private void heightOfAll() {
        check.under(6, HEIGHT);
        Alarmgrove x = Grove.made(Grove::chain);
        for (int node = 0; node < 14; node++) {
            check.due("height(" + node + ") in a chain", x.height(node), 13 - node);
        }
    }

    private void heightIsTheGreatest() {
        check.under(6, HEIGHT);
        Alarmgrove x = Grove.with(new int[][] {{9, 0}, {9, 8}, {8, 7}, {7, 6}, {9, 6}, {13, 9}, {13, 0}});
        check.due("height(0) that needs none and is needed", x.height(0), 0);
        check.due("height(1) that has no needs at all", x.height(1), 0);
        check.due("height(8)", x.height(8), 2);
        check.due("height(9) of 0, 0 and 2", x.height(9), 3);
        check.due("height(13) of 0 and 3", x.height(13), 4);
        x.release(8, 7);
        check.due("height(13) without the longest way", x.height(13), 2);
    }

    private void noSuchNode() {
        Grove.Recipe busy = x -> {
            x.need(12, 3);
            x.need(3, 1);
        };
        check.under(2, THROWS_NO_NODE);
        expect.nodesAlone("need(.., 5)", busy, (x, node) -> Check.asLong(x.need(node, 5)));
        expect.nodesAlone("need(5, ..)", busy, (x, node) -> Check.asLong(x.need(5, node)));
        check.dueThrow("need(14, 14)", NO_NODE, () -> Check.asLong(Grove.made(busy).need(14, 14)));
        check.under(3, THROWS_NO_NODE);
        expect.nodesAlone("release(.., 3)", busy, (x, node) -> Check.asLong(x.release(node, 3)));
        expect.nodesAlone("release(3, ..)", busy, (x, node) -> Check.asLong(x.release(3, node)));
        check.under(4, THROWS_NO_NODE);
        expect.nodesAlone("needs(.., 3)", busy, (x, node) -> Check.asLong(x.needs(node, 3)));
        expect.nodesAlone("needs(3, ..)", busy, (x, node) -> Check.asLong(x.needs(3, node)));
        check.under(5, THROWS_NO_NODE);
        expect.nodesAlone("dependsOn(.., 3)", busy, (x, node) -> Check.asLong(x.dependsOn(node, 3)));
        expect.nodesAlone("dependsOn(3, ..)", busy, (x, node) -> Check.asLong(x.dependsOn(3, node)));
        check.under(6, THROWS_NO_NODE);
        expect.nodesAlone("height(..)", busy, Alarmgrove::height);
    }
}
