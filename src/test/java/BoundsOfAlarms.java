/** The sentences of promises 7 to 14. */
final class BoundsOfAlarms {
    private static final Class<IllegalArgumentException> OUT_OF_RANGE = IllegalArgumentException.class;
    private static final Class<IllegalStateException> NOT_NOW = IllegalStateException.class;
    private static final String THROWS_NO_NODE = "Throws IndexOutOfBoundsException if there is no such node";
    private static final String THROWS_TICKS = "Throws IllegalArgumentException if ticks is out of range";

    private final Check check;
    private final Expect expect;

    BoundsOfAlarms(Check check) {
        this.check = check;
        this.expect = new Expect(check);
    }

    void all() {
        ticks();
        now();
        raise();
        raiseRefuses();
        clear();
        clearRefuses();
        bothAtTheLastEvent();
        state();
        nodesThatAre();
        nodesThatAreRefuses();
        raisesByTicks();
        raisesOfManyAndOfFew();
        raisesRefuses();
        events();
        noSuchNode();
    }

    private void ticks() {
        Alarmgrove x = new Alarmgrove();
        check.under(7, "ticks: 1 to 100");
        check.due("tick(1)", x.tick(1), 1);
        check.due("tick(100)", x.tick(100), 101);
        check.under(7, THROWS_TICKS);
        for (int wrong : new int[] {0, -1, -100, 101, 102, 257, Integer.MIN_VALUE, Integer.MAX_VALUE}) {
            check.dueThrow("tick(" + wrong + ")", OUT_OF_RANGE, () -> x.tick(wrong));
        }
        check.under(7, "Returns the time then");
        check.due("tick(2)", x.tick(2), 103);
        check.under(7, "Lets time go on");
        check.due("now()", x.now(), 103);
        Grove.tickOften(x, 490, 100);
        check.due("now() after 490 times 100 ticks more", x.now(), 49103);
    }

    private void now() {
        check.under(8, "Returns the time");
        Alarmgrove x = new Alarmgrove();
        check.due("now() at first", x.now(), 0);
        x.raise(3);
        check.due("now() after a call other than tick", x.now(), 0);
        x.tick(7);
        check.due("now() after tick(7)", x.now(), 7);
        check.due("now() again", x.now(), 7);
    }

    private void raise() {
        Alarmgrove x = Grove.with(new int[][] {{13, 0}});
        check.under(9, "Returns the number of its ticket");
        check.due("raise(13), the first", x.raise(13), 1);
        check.due("raise(5) of no relation", x.raise(5), 2);
        check.due("raise(0) below 13", x.raise(0), 1);
        check.under(9, "Raises the alarm of a node");
        check.due("state(13)", x.state(13), Alarmgrove.SUPPRESSED);
        check.due("state(0)", x.state(0), Alarmgrove.SHOWN);
        check.due("events()", x.events(), 3);
        check.due("eventNode(2)", x.eventNode(2), 0);
        check.due("eventKind(2)", x.eventKind(2), Alarmgrove.RAISED);
    }

    private void raiseRefuses() {
        check.under(9, "Throws IllegalStateException if it is raised, or there are 300 events");
        Alarmgrove x = Grove.made(Grove::raiseAll);
        for (int node = 0; node < 14; node++) {
            int one = node;
            check.dueThrow("raise(" + node + ") of a raised node", NOT_NOW, () -> x.raise(one));
        }
        x.clear(13);
        check.due("raise(13) when it is cleared", x.raise(13), 15);
        Alarmgrove y = Grove.made(Grove::fill);
        check.dueThrow("raise(0) of a quiet node at 300 events", NOT_NOW, () -> y.raise(0));
        check.dueThrow("raise(7) of a raised node at 300 events", NOT_NOW, () -> y.raise(7));
        y.tick(100);
        check.dueThrow("raise(0) at 300 events, long after", NOT_NOW, () -> y.raise(0));
        check.due("events() then", y.events(), 300);
        check.due("state(0) then", y.state(0), Alarmgrove.QUIET);
    }

    private void clear() {
        Alarmgrove x = Grove.with(new int[][] {{13, 0}, {12, 0}}, 12, 13, 0, 5);
        check.under(10, "Returns how many nodes its ticket has then");
        check.due("clear(13) of a ticket of three", x.clear(13), 2);
        check.due("clear(0) of a ticket of two", x.clear(0), 1);
        check.due("clear(12) of a ticket of one", x.clear(12), 0);
        check.due("clear(5) of a ticket of its own", x.clear(5), 0);
        check.under(10, "Clears the alarm of a node");
        check.due("state(13)", x.state(13), Alarmgrove.QUIET);
        check.due("state(5)", x.state(5), Alarmgrove.QUIET);
        check.due("ticketOf(5)", x.ticketOf(5), Alarmgrove.NONE);
        check.due("events()", x.events(), 8);
        check.due("eventKind(7)", x.eventKind(7), Alarmgrove.CLEARED);
        check.due("clear(3) of a ticket of all 14", Grove.made(y -> {
            Grove.chain(y);
            Grove.raiseAll(y);
        }).clear(3), 13);
    }

    private void clearRefuses() {
        check.under(10, "Throws IllegalStateException if it is not raised, or there are 300 events");
        Alarmgrove x = new Alarmgrove();
        for (int node = 0; node < 14; node++) {
            int one = node;
            check.dueThrow("clear(" + node + ") of a node never raised", NOT_NOW, () -> x.clear(one));
        }
        Grove.flutter(x, 13, 1);
        check.dueThrow("clear(13) again", NOT_NOW, () -> x.clear(13));
        Alarmgrove y = Grove.made(Grove::fill);
        check.dueThrow("clear(7) of a raised node at 300 events", NOT_NOW, () -> y.clear(7));
        check.dueThrow("clear(0) of a quiet node at 300 events", NOT_NOW, () -> y.clear(0));
        y.tick(100);
        check.dueThrow("clear(7) at 300 events, long after", NOT_NOW, () -> y.clear(7));
        check.due("events() then", y.events(), 300);
        check.due("ticketSize of the ticket of 7 then", y.ticketSize(y.ticketOf(7)), 2);
    }

    private void bothAtTheLastEvent() {
        Grove.Recipe almostFull = x -> {
            Grove.flutter(x, 7, 149);
            x.raise(6);
        };
        check.under(9, "Throws IllegalStateException if it is raised, or there are 300 events");
        check.due("raise(7) as event 300", Grove.made(almostFull).raise(7), 151);
        check.under(10, "Throws IllegalStateException if it is not raised, or there are 300 events");
        check.due("clear(6) as event 300", Grove.made(almostFull).clear(6), 0);
    }

    private void state() {
        Alarmgrove x = Grove.with(new int[][] {{13, 0}}, 0, 13);
        Grove.flutter(x, 6, 2);
        x.raise(6);
        check.under(11, "Returns the state of a node");
        check.due("state(0) after calls for other nodes", x.state(0), Alarmgrove.SHOWN);
        check.under(11, "Returns QUIET, SHOWN, FLAPPING or SUPPRESSED");
        check.due("state(1)", x.state(1), Alarmgrove.QUIET);
        check.due("state(0)", x.state(0), Alarmgrove.SHOWN);
        check.due("state(6)", x.state(6), Alarmgrove.FLAPPING);
        check.due("state(13)", x.state(13), Alarmgrove.SUPPRESSED);
    }

    private void nodesThatAre() {
        check.under(12, "Returns how many nodes have a state");
        dueStates("no node raised", new Alarmgrove(), 14, 0, 0, 0);
        dueStates("all raised alone", Grove.made(Grove::raiseAll), 0, 14, 0, 0);
        dueStates("all raised in a chain", Grove.made(x -> {
            Grove.chain(x);
            Grove.raiseAll(x);
        }), 0, 1, 0, 13);
        dueStates("all flapping", Grove.made(x -> {
            Grove.chain(x);
            for (int node = 0; node < 14; node++) {
                Grove.flutter(x, node, 2);
            }
            Grove.raiseAll(x);
        }), 0, 0, 14, 0);
        dueStates("one of each but the quiet", Grove.made(x -> {
            x.need(13, 0);
            x.raise(0);
            x.raise(13);
            Grove.flutter(x, 6, 3);
            x.raise(6);
        }), 11, 1, 1, 1);
    }

    private void dueStates(String what, Alarmgrove x, int quiet, int shown, int flapping, int suppressed) {
        check.due(what + ": nodesThatAre(QUIET)", x.nodesThatAre(Alarmgrove.QUIET), quiet);
        check.due(what + ": nodesThatAre(SHOWN)", x.nodesThatAre(Alarmgrove.SHOWN), shown);
        check.due(what + ": nodesThatAre(FLAPPING)", x.nodesThatAre(Alarmgrove.FLAPPING), flapping);
        check.due(what + ": nodesThatAre(SUPPRESSED)", x.nodesThatAre(Alarmgrove.SUPPRESSED), suppressed);
    }

    private void nodesThatAreRefuses() {
        check.under(12, "Throws IllegalArgumentException if there is no such state");
        Alarmgrove x = new Alarmgrove();
        for (int wrong : new int[] {-1, 4, 5, 32, Integer.MIN_VALUE, Integer.MAX_VALUE}) {
            check.dueThrow("nodesThatAre(" + wrong + ")", OUT_OF_RANGE, () -> x.nodesThatAre(wrong));
        }
        check.due("nodesThatAre(0), the first state", x.nodesThatAre(0), 14);
        check.due("nodesThatAre(3), the last state", x.nodesThatAre(3), 0);
    }

    private static final String RAISES = "Returns how often the alarm of a node was raised in the last ticks, "
        + "that is, later than so many ticks before now";

    private void raisesByTicks() {
        check.under(13, RAISES);
        for (int ago : new int[] {1, 2, 9, 10, 11, 99, 100}) {
            Alarmgrove x = Grove.with(new int[][] {}, 4);
            x.tick(ago);
            check.due("raises(4, " + ago + ") of a raise as long ago", x.raises(4, ago), 0);
            check.due("raises(4, " + (ago + 1) + ") of a raise a tick less ago", x.raises(4, ago + 1), 1);
        }
        Alarmgrove y = Grove.with(new int[][] {}, 4);
        check.due("raises(4, 1) at the very time", y.raises(4, 1), 1);
        Grove.tickOften(y, 9, 100);
        y.tick(99);
        check.due("raises(4, 1000) 999 ticks later", y.raises(4, 1000), 1);
        y.tick(1);
        check.due("raises(4, 1000) 1000 ticks later", y.raises(4, 1000), 0);
    }

    private void raisesOfManyAndOfFew() {
        check.under(13, RAISES);
        Alarmgrove x = Grove.made(Grove::fill);
        check.due("raises(7, 1000), more ticks than there were", x.raises(7, 1000), 150);
        check.due("raises(7, 6) since time 0", x.raises(7, 6), 150);
        check.due("raises(7, 5) since time 1", x.raises(7, 5), 1);
        check.due("raises(7, 2) since time 4", x.raises(7, 2), 1);
        check.due("raises(7, 1) since time 5", x.raises(7, 1), 0);
        check.due("raises(6, 1) since time 5", x.raises(6, 1), 1);
        check.due("raises(0, 1000) of a node never raised", x.raises(0, 1000), 0);
    }

    private void raisesRefuses() {
        Alarmgrove x = Grove.with(new int[][] {}, 4);
        check.under(13, "ticks: 1 to 1000");
        check.due("raises(4, 1)", x.raises(4, 1), 1);
        check.due("raises(4, 1000)", x.raises(4, 1000), 1);
        check.under(13, THROWS_TICKS);
        for (int wrong : new int[] {0, -1, -1000, 1001, 1002, Integer.MIN_VALUE, Integer.MAX_VALUE}) {
            check.dueThrow("raises(4, " + wrong + ")", OUT_OF_RANGE, () -> x.raises(4, wrong));
        }
    }

    private void events() {
        check.under(14, "Returns how many events there were");
        Alarmgrove x = new Alarmgrove();
        check.due("events() at first", x.events(), 0);
        x.raise(3);
        check.due("events() after a raise", x.events(), 1);
        x.tick(5);
        x.need(3, 2);
        Check.outcome(() -> x.raise(3));
        Check.outcome(() -> x.clear(2));
        check.due("events() after refused calls, a tick and a need", x.events(), 1);
        x.clear(3);
        check.due("events() after a clear", x.events(), 2);
        check.due("events() of a full object", Grove.made(Grove::fill).events(), 300);
    }

    private void noSuchNode() {
        check.under(9, THROWS_NO_NODE);
        expect.nodesAlone("raise", x -> x.raise(5), Alarmgrove::raise);
        check.under(10, THROWS_NO_NODE);
        expect.nodesAlone("clear", Grove::raiseAll, Alarmgrove::clear);
        check.under(11, THROWS_NO_NODE);
        expect.nodesAlone("state", Grove::raiseAll, Alarmgrove::state);
        check.under(13, THROWS_NO_NODE);
        expect.nodesAlone("raises(.., 5)", Grove::raiseAll, (x, node) -> x.raises(node, 5));
    }
}
