/** Promises 1 to 6: a new object, need, release, needs, dependsOn, height. */
public final class NeedsTest {
    private static final Class<IllegalArgumentException> NOT_SO = IllegalArgumentException.class;

    private static final Check CHECK = new Check();

    public static void main(String[] args) {
        newObjectIsQuiet();
        needTellsWhetherItIsNew();
        needRefusesRounds();
        releaseTakesBack();
        needsIsDirectOnly();
        dependsOnFollowsNeeds();
        heightIsTheLongestWay();
        CHECK.end("NeedsTest");
    }

    private static void newObjectIsQuiet() {
        Alarmgrove x = new Alarmgrove();
        for (int node = 0; node < 14; node++) {
            CHECK.due("state(" + node + ") of a new object", x.state(node), Alarmgrove.QUIET);
            CHECK.due("ticketOf(" + node + ") of a new object", x.ticketOf(node), Alarmgrove.NONE);
            CHECK.due("height(" + node + ") of a new object", x.height(node), 0);
            CHECK.due("isPlausible(" + node + ") of a new object", x.isPlausible(node), false);
            for (int other = 0; other < 14; other++) {
                CHECK.due("needs of a new object", x.needs(node, other), false);
                CHECK.due("dependsOn of a new object", x.dependsOn(node, other), false);
            }
        }
        CHECK.due("now() of a new object", x.now(), 0);
        CHECK.due("events() of a new object", x.events(), 0);
        CHECK.due("nodesThatAre(QUIET) of a new object", x.nodesThatAre(Alarmgrove.QUIET), 14);
        CHECK.due("openTickets() of a new object", x.openTickets(), 0);
        CHECK.due("causes() of a new object", x.causes(), 0);
        CHECK.due("greedyCauses() of a new object", x.greedyCauses(), 0);
    }

    private static void needTellsWhetherItIsNew() {
        Alarmgrove x = new Alarmgrove();
        CHECK.due("need(0, 13) first", x.need(0, 13), true);
        CHECK.due("need(0, 13) again", x.need(0, 13), false);
        CHECK.due("need(13, 12)", x.need(13, 12), true);
        CHECK.due("need(0, 12) that was indirect only", x.need(0, 12), true);
        CHECK.due("needs(0, 13)", x.needs(0, 13), true);
        CHECK.due("needs(0, 12)", x.needs(0, 12), true);
    }

    private static void needRefusesRounds() {
        Alarmgrove x = new Alarmgrove();
        for (int node = 0; node < 14; node++) {
            int same = node;
            CHECK.dueThrow("need of itself", NOT_SO, () -> Check.asLong(x.need(same, same)));
        }
        for (int node = 0; node < 13; node++) {
            x.need(node, node + 1);
        }
        for (int node = 1; node < 14; node++) {
            int upper = node;
            CHECK.dueThrow("need(" + node + ", 0) round", NOT_SO, () -> Check.asLong(x.need(upper, 0)));
            CHECK.due("needs after a refused need", x.needs(node, 0), false);
        }
        CHECK.due("dependsOn(13, 0) after refused needs", x.dependsOn(13, 0), false);
        CHECK.due("height(13) after refused needs", x.height(13), 0);
        x.release(6, 7);
        CHECK.due("need(13, 0) when the chain is cut", x.need(13, 0), true);
        CHECK.dueThrow("need(6, 7) in the round", NOT_SO, () -> Check.asLong(x.need(6, 7)));
    }

    private static void releaseTakesBack() {
        Alarmgrove x = new Alarmgrove();
        CHECK.due("release(2, 5) of nothing", x.release(2, 5), false);
        CHECK.due("release(2, 2) of itself", x.release(2, 2), false);
        x.need(2, 5);
        CHECK.due("release(5, 2) the other way", x.release(5, 2), false);
        CHECK.due("needs(2, 5) then", x.needs(2, 5), true);
        CHECK.due("release(2, 5)", x.release(2, 5), true);
        CHECK.due("needs(2, 5) after it", x.needs(2, 5), false);
        CHECK.due("dependsOn(2, 5) after it", x.dependsOn(2, 5), false);
        CHECK.due("release(2, 5) again", x.release(2, 5), false);
        CHECK.due("need(5, 2) is free now", x.need(5, 2), true);
        x.need(2, 1);
        CHECK.due("release(5, 1) of an indirect need", x.release(5, 1), false);
        CHECK.due("dependsOn(5, 1) stays", x.dependsOn(5, 1), true);
    }

    private static void needsIsDirectOnly() {
        Alarmgrove x = new Alarmgrove();
        x.need(3, 2);
        x.need(2, 1);
        CHECK.due("needs(3, 2)", x.needs(3, 2), true);
        CHECK.due("needs(2, 3)", x.needs(2, 3), false);
        CHECK.due("needs(3, 1)", x.needs(3, 1), false);
        CHECK.due("needs(3, 3)", x.needs(3, 3), false);
    }

    private static void dependsOnFollowsNeeds() {
        Alarmgrove x = new Alarmgrove();
        for (int node = 13; node > 0; node--) {
            x.need(node, node - 1);
        }
        for (int node = 0; node < 14; node++) {
            for (int other = 0; other < 14; other++) {
                CHECK.due("dependsOn(" + node + ", " + other + ") in a chain", x.dependsOn(node, other), other < node);
            }
        }
        x.need(13, 5);
        x.release(8, 7);
        CHECK.due("dependsOn(8, 0) when cut", x.dependsOn(8, 0), false);
        CHECK.due("dependsOn(13, 6) when cut", x.dependsOn(13, 6), false);
        CHECK.due("dependsOn(13, 0) by the other way", x.dependsOn(13, 0), true);
        CHECK.due("dependsOn(13, 8) above the cut", x.dependsOn(13, 8), true);
    }

    private static void heightIsTheLongestWay() {
        Alarmgrove x = new Alarmgrove();
        for (int node = 1; node < 14; node++) {
            for (int other = 0; other < node; other++) {
                x.need(node, other);
            }
        }
        for (int node = 0; node < 14; node++) {
            CHECK.due("height(" + node + ") when all need all below", x.height(node), node);
        }
        x.release(13, 12);
        CHECK.due("height(13) without the longest way", x.height(13), 12);
        Alarmgrove y = new Alarmgrove();
        y.need(4, 1);
        y.need(4, 0);
        y.need(1, 2);
        y.need(2, 3);
        y.need(9, 4);
        CHECK.due("height(9) of ways of unlike length", y.height(9), 4);
        CHECK.due("height(4) of ways of unlike length", y.height(4), 3);
        CHECK.due("height(0) below", y.height(0), 0);
    }
}
