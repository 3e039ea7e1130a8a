/** The sentences of promises 15 to 18. */
final class BoundsOfEvents {
    private static final Class<IndexOutOfBoundsException> NO_EVENT = IndexOutOfBoundsException.class;
    private static final String FIRST = "event: 0 for the first one";
    private static final String THROWS_NO_EVENT = "Throws IndexOutOfBoundsException if there is no such event";

    private final Check check;

    BoundsOfEvents(Check check) {
        this.check = check;
    }

    void all() {
        kinds();
        nodes();
        times();
        lengths();
        lengthsAreOfTheLastRaise();
        noSuchEvent(15, "eventKind", Alarmgrove::eventKind);
        noSuchEvent(16, "eventNode", Alarmgrove::eventNode);
        noSuchEvent(17, "eventTime", Alarmgrove::eventTime);
        noSuchEvent(18, "eventLength", Alarmgrove::eventLength);
    }

    private void kinds() {
        Alarmgrove x = Grove.made(Grove::fill);
        check.under(15, FIRST);
        check.due("eventKind(0)", x.eventKind(0), Alarmgrove.RAISED);
        check.under(15, "Returns the kind of an event");
        for (int event = 0; event < 298; event++) {
            int due = event % 2 == 0 ? Alarmgrove.RAISED : Alarmgrove.CLEARED;
            check.due("eventKind(" + event + ")", x.eventKind(event), due);
        }
        check.under(15, "Returns RAISED or CLEARED");
        check.due("eventKind(297)", x.eventKind(297), 1);
        check.due("eventKind(298)", x.eventKind(298), 0);
        check.due("eventKind(299), the last of 300", x.eventKind(299), 0);
    }

    private void nodes() {
        Alarmgrove x = Grove.with(new int[][] {}, 13, 0, 5);
        x.clear(0);
        check.under(16, FIRST);
        check.due("eventNode(0)", x.eventNode(0), 13);
        check.under(16, "Returns the node of an event");
        check.due("eventNode(1)", x.eventNode(1), 0);
        check.due("eventNode(2)", x.eventNode(2), 5);
        check.due("eventNode(3)", x.eventNode(3), 0);
        check.due("eventNode(299), the last of 300", Grove.made(Grove::fill).eventNode(299), 6);
    }

    private void times() {
        Alarmgrove x = Grove.with(new int[][] {}, 3);
        x.raise(4);
        x.tick(100);
        x.clear(3);
        check.under(17, FIRST);
        check.due("eventTime(0)", x.eventTime(0), 0);
        check.under(17, "Returns the time of an event");
        check.due("eventTime(1) at the same time", x.eventTime(1), 0);
        check.due("eventTime(2) after tick(100)", x.eventTime(2), 100);
        Grove.tickOften(x, 400, 100);
        x.clear(4);
        check.due("eventTime(3) long after", x.eventTime(3), 40100);
        check.due("eventTime(299), the last of 300", Grove.made(Grove::fill).eventTime(299), 5);
    }

    private static final String LENGTH = "Returns how long an alarm was raised that an event clears: its time, "
        + "less the time at which the alarm was raised";

    private void lengths() {
        Alarmgrove x = Grove.with(new int[][] {}, 13);
        Grove.flutter(x, 4, 1);
        Grove.tickOften(x, 400, 100);
        x.clear(13);
        check.under(18, FIRST);
        check.due("eventLength(0)", x.eventLength(0), Alarmgrove.NONE);
        check.under(18, "Returns the ticks; NONE if the event is of the kind RAISED");
        check.due("eventLength(1) of a raise that was cleared since", x.eventLength(1), -1);
        check.due("eventLength(2) of a clear", x.eventLength(2), 0);
        check.due("eventLength(0) of a raise, when it is cleared", x.eventLength(0), -1);
        check.due("eventLength(299) of a raise, the last of 300", Grove.made(Grove::fill).eventLength(299), -1);
        check.under(18, LENGTH);
        check.due("eventLength(2) cleared at the same time", x.eventLength(2), 0);
        check.due("eventLength(3) cleared long after", x.eventLength(3), 40000);
    }

    private void lengthsAreOfTheLastRaise() {
        check.under(18, LENGTH);
        Alarmgrove x = Grove.with(new int[][] {}, 2);
        x.tick(3);
        x.raise(5);
        x.clear(2);
        x.tick(10);
        x.raise(2);
        Check.outcome(() -> x.raise(5));
        x.tick(1);
        Check.outcome(() -> x.raise(2));
        x.clear(2);
        x.clear(5);
        check.due("eventLength(2) with another node raised between", x.eventLength(2), 3);
        check.due("eventLength(4) of a node raised twice", x.eventLength(4), 1);
        check.due("eventLength(5) after a refused raise", x.eventLength(5), 11);
    }

    private void noSuchEvent(int promise, String name, Expect.NodeCall call) {
        check.under(promise, THROWS_NO_EVENT);
        Alarmgrove none = new Alarmgrove();
        check.dueThrow(name + "(0) without events", NO_EVENT, () -> call.of(none, 0));
        Alarmgrove one = Grove.with(new int[][] {}, 9);
        check.due(name + "(0) of one event", Check.outcome(() -> call.of(one, 0)).startsWith("throws."), false);
        check.dueThrow(name + "(1) of one event", NO_EVENT, () -> call.of(one, 1));
        Alarmgrove full = Grove.made(Grove::fill);
        check.due(name + "(299) of 300", Check.outcome(() -> call.of(full, 299)).startsWith("throws."), false);
        check.dueThrow(name + "(300) of 300", NO_EVENT, () -> call.of(full, 300));
        for (int wrong : new int[] {-1, -300, 301, 1000, Integer.MIN_VALUE, Integer.MAX_VALUE}) {
            check.dueThrow(name + "(" + wrong + ") without events", NO_EVENT, () -> call.of(none, wrong));
            check.dueThrow(name + "(" + wrong + ") of one event", NO_EVENT, () -> call.of(one, wrong));
            check.dueThrow(name + "(" + wrong + ") of 300", NO_EVENT, () -> call.of(full, wrong));
        }
    }
}
