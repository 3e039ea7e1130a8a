/** Promises 7 to 18: time, alarms, states and events. */
public final class AlarmsTest {
    private static final Class<IndexOutOfBoundsException> NOT_THERE = IndexOutOfBoundsException.class;
    private static final Class<IllegalArgumentException> OUT_OF_RANGE = IllegalArgumentException.class;
    private static final Class<IllegalStateException> NOT_NOW = IllegalStateException.class;

    private static final Check CHECK = new Check();

    public static void main(String[] args) {
        tickLetsTimeGoOn();
        raiseAndClear();
        raiseAndClearRefuse();
        stateGoesByRank();
        nodesThatAreCounts();
        flappingEndsAfterTenTicks();
        raisesCountsBack();
        eventsAreKept();
        CHECK.end("AlarmsTest");
    }

    private static void tickLetsTimeGoOn() {
        Alarmgrove x = new Alarmgrove();
        CHECK.due("tick(1)", x.tick(1), 1);
        CHECK.due("tick(100)", x.tick(100), 101);
        CHECK.due("now()", x.now(), 101);
        for (int wrong : new int[] {0, -1, 101, Integer.MIN_VALUE, Integer.MAX_VALUE}) {
            CHECK.dueThrow("tick(" + wrong + ")", OUT_OF_RANGE, () -> x.tick(wrong));
        }
        CHECK.due("now() after refused ticks", x.now(), 101);
    }

    private static void raiseAndClear() {
        Alarmgrove x = new Alarmgrove();
        CHECK.due("raise(0)", x.raise(0), 1);
        CHECK.due("raise(13)", x.raise(13), 2);
        CHECK.due("state(0)", x.state(0), Alarmgrove.SHOWN);
        CHECK.due("clear(0)", x.clear(0), 0);
        CHECK.due("state(0) when cleared", x.state(0), Alarmgrove.QUIET);
        CHECK.due("state(13) stays", x.state(13), Alarmgrove.SHOWN);
        x.need(13, 0);
        CHECK.due("raise(0) joins 13", x.raise(0), 2);
        CHECK.due("clear(13) leaves one node", x.clear(13), 1);
        CHECK.due("clear(0) leaves none", x.clear(0), 0);
    }

    private static void raiseAndClearRefuse() {
        Alarmgrove x = new Alarmgrove();
        CHECK.dueThrow("clear(5) of a quiet node", NOT_NOW, () -> x.clear(5));
        x.raise(5);
        CHECK.dueThrow("raise(5) of a raised node", NOT_NOW, () -> x.raise(5));
        CHECK.due("events() after refused calls", x.events(), 1);
        CHECK.due("ticketState(2) after refused calls", x.ticketState(2), Alarmgrove.UNUSED);
        x.clear(5);
        CHECK.dueThrow("clear(5) again", NOT_NOW, () -> x.clear(5));
    }

    private static void stateGoesByRank() {
        Alarmgrove x = new Alarmgrove();
        x.need(2, 1);
        x.need(1, 0);
        x.raise(2);
        CHECK.due("state(2) above quiet nodes", x.state(2), Alarmgrove.SHOWN);
        x.raise(0);
        CHECK.due("state(2) above a raised node, indirectly", x.state(2), Alarmgrove.SUPPRESSED);
        CHECK.due("state(1) not raised above a raised node", x.state(1), Alarmgrove.QUIET);
        CHECK.due("state(0) below all", x.state(0), Alarmgrove.SHOWN);
        x.clear(2);
        x.raise(2);
        CHECK.due("state(2) raised twice", x.state(2), Alarmgrove.SUPPRESSED);
        x.clear(2);
        x.raise(2);
        CHECK.due("state(2) flapping before suppressed", x.state(2), Alarmgrove.FLAPPING);
        x.clear(2);
        CHECK.due("state(2) quiet before flapping", x.state(2), Alarmgrove.QUIET);
        x.raise(1);
        x.clear(0);
        x.raise(2);
        x.tick(10);
        CHECK.due("state(2) above raised 1", x.state(2), Alarmgrove.SUPPRESSED);
        x.release(2, 1);
        CHECK.due("state(2) after release", x.state(2), Alarmgrove.SHOWN);
    }

    private static void nodesThatAreCounts() {
        Alarmgrove x = new Alarmgrove();
        x.need(2, 1);
        x.need(3, 1);
        x.raise(1);
        x.raise(2);
        x.raise(3);
        x.raise(9);
        x.clear(9);
        x.raise(9);
        x.clear(9);
        x.raise(9);
        CHECK.due("nodesThatAre(QUIET)", x.nodesThatAre(Alarmgrove.QUIET), 10);
        CHECK.due("nodesThatAre(SHOWN)", x.nodesThatAre(Alarmgrove.SHOWN), 1);
        CHECK.due("nodesThatAre(FLAPPING)", x.nodesThatAre(Alarmgrove.FLAPPING), 1);
        CHECK.due("nodesThatAre(SUPPRESSED)", x.nodesThatAre(Alarmgrove.SUPPRESSED), 2);
        for (int wrong : new int[] {-1, 4, Integer.MIN_VALUE, Integer.MAX_VALUE}) {
            CHECK.dueThrow("nodesThatAre(" + wrong + ")", OUT_OF_RANGE, () -> x.nodesThatAre(wrong));
        }
    }

    private static void flappingEndsAfterTenTicks() {
        Alarmgrove x = new Alarmgrove();
        x.tick(20);
        x.raise(4);
        x.clear(4);
        x.tick(9);
        x.raise(4);
        x.clear(4);
        CHECK.due("raises(4, 10) before the third", x.raises(4, 10), 2);
        x.raise(4);
        CHECK.due("state(4) with the first 9 ticks ago", x.state(4), Alarmgrove.FLAPPING);
        x.tick(1);
        CHECK.due("state(4) with the first 10 ticks ago", x.state(4), Alarmgrove.SHOWN);
        CHECK.due("raises(4, 10) with the first 10 ticks ago", x.raises(4, 10), 2);
        CHECK.due("raises(4, 11) with the first 10 ticks ago", x.raises(4, 11), 3);
    }

    private static void raisesCountsBack() {
        Alarmgrove x = new Alarmgrove();
        x.raise(4);
        x.clear(4);
        CHECK.due("raises(4, 1) at the same time", x.raises(4, 1), 1);
        CHECK.due("raises(5, 1) of another node", x.raises(5, 1), 0);
        x.tick(1);
        CHECK.due("raises(4, 1) one tick later", x.raises(4, 1), 0);
        CHECK.due("raises(4, 2) one tick later", x.raises(4, 2), 1);
        for (int ticks = 0; ticks < 9; ticks++) {
            x.tick(100);
        }
        x.tick(98);
        CHECK.due("raises(4, 1000) 999 ticks later", x.raises(4, 1000), 1);
        x.tick(1);
        CHECK.due("raises(4, 1000) 1000 ticks later", x.raises(4, 1000), 0);
        for (int wrong : new int[] {0, -1, 1001, Integer.MIN_VALUE, Integer.MAX_VALUE}) {
            CHECK.dueThrow("raises(4, " + wrong + ")", OUT_OF_RANGE, () -> x.raises(4, wrong));
        }
        CHECK.dueThrow("raises(14, 0), the first named", NOT_THERE, () -> x.raises(14, 0));
        CHECK.dueThrow("raises(-1, 1001), the first named", NOT_THERE, () -> x.raises(-1, 1001));
    }

    private static void eventsAreKept() {
        Alarmgrove x = new Alarmgrove();
        x.raise(3);
        x.tick(7);
        x.raise(0);
        x.tick(2);
        x.clear(3);
        x.clear(0);
        x.raise(3);
        x.clear(3);
        int[][] due = {{Alarmgrove.RAISED, 3, 0, -1}, {Alarmgrove.RAISED, 0, 7, -1}, {Alarmgrove.CLEARED, 3, 9, 9},
            {Alarmgrove.CLEARED, 0, 9, 2}, {Alarmgrove.RAISED, 3, 9, -1}, {Alarmgrove.CLEARED, 3, 9, 0}};
        CHECK.due("events()", x.events(), due.length);
        for (int event = 0; event < due.length; event++) {
            CHECK.due("eventKind(" + event + ")", x.eventKind(event), due[event][0]);
            CHECK.due("eventNode(" + event + ")", x.eventNode(event), due[event][1]);
            CHECK.due("eventTime(" + event + ")", x.eventTime(event), due[event][2]);
            CHECK.due("eventLength(" + event + ")", x.eventLength(event), due[event][3]);
        }
        for (int wrong : new int[] {-1, 6, 300, Integer.MIN_VALUE, Integer.MAX_VALUE}) {
            CHECK.dueThrow("eventKind(" + wrong + ")", NOT_THERE, () -> x.eventKind(wrong));
            CHECK.dueThrow("eventNode(" + wrong + ")", NOT_THERE, () -> x.eventNode(wrong));
            CHECK.dueThrow("eventTime(" + wrong + ")", NOT_THERE, () -> x.eventTime(wrong));
            CHECK.dueThrow("eventLength(" + wrong + ")", NOT_THERE, () -> x.eventLength(wrong));
        }
    }
}
