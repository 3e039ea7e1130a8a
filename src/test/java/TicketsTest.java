/** Promises 19 to 23, and the tickets that raise and clear tell (9, 10). */
public final class TicketsTest {

    private static final Check CHECK = new Check();
    private static final Expect EXPECT = new Expect(CHECK);

    public static void main(String[] args) {
        numbersWithoutTicket();
        relatedNodesShareATicket();
        ticketsMerge();
        ticketsMergeInTurn();
        nodesAtBothEndsMoveToo();
        needsDoNotChangeTickets();
        closedTicketsStayClosed();
        CHECK.end("TicketsTest");
    }

    private static void numbersWithoutTicket() {
        Alarmgrove x = new Alarmgrove();
        x.raise(3);
        for (int number : new int[] {-1, 0, 2, 299, 300, 301, 302, Integer.MIN_VALUE, Integer.MAX_VALUE}) {
            EXPECT.ticket(x, number, Alarmgrove.UNUSED, 0, Alarmgrove.NONE);
        }
        EXPECT.ticket(x, 1, Alarmgrove.OPEN, 1, Alarmgrove.NONE);
    }

    private static void relatedNodesShareATicket() {
        Alarmgrove x = new Alarmgrove();
        x.need(5, 4);
        x.need(4, 3);
        x.need(6, 3);
        CHECK.due("raise(5)", x.raise(5), 1);
        CHECK.due("raise(3) below, indirectly", x.raise(3), 1);
        CHECK.due("raise(6) above 3", x.raise(6), 1);
        CHECK.due("raise(7) of no relation", x.raise(7), 2);
        CHECK.due("openTickets()", x.openTickets(), 2);
        CHECK.due("ticketOf(6)", x.ticketOf(6), 1);
        CHECK.due("ticketOf(4) that is quiet", x.ticketOf(4), Alarmgrove.NONE);
        CHECK.due("clear(3)", x.clear(3), 2);
        CHECK.due("ticketOf(3) when cleared", x.ticketOf(3), Alarmgrove.NONE);
        CHECK.due("clear(6)", x.clear(6), 1);
        CHECK.due("raise(6) no more related to 5", x.raise(6), 3);
        EXPECT.ticket(x, 1, Alarmgrove.OPEN, 1, Alarmgrove.NONE);
        EXPECT.ticket(x, 3, Alarmgrove.OPEN, 1, Alarmgrove.NONE);
    }

    private static void ticketsMerge() {
        Alarmgrove x = new Alarmgrove();
        x.need(10, 0);
        x.need(11, 0);
        x.need(12, 0);
        x.need(12, 1);
        x.raise(1);
        x.raise(11);
        x.raise(10);
        x.raise(13);
        CHECK.due("raise(12) joins 1 alone", x.raise(12), 1);
        CHECK.due("openTickets() before", x.openTickets(), 4);
        CHECK.due("raise(0) unites 1, 2 and 3", x.raise(0), 1);
        CHECK.due("openTickets() after", x.openTickets(), 2);
        EXPECT.ticket(x, 1, Alarmgrove.OPEN, 5, Alarmgrove.NONE);
        EXPECT.ticket(x, 2, Alarmgrove.MERGED, 0, 1);
        EXPECT.ticket(x, 3, Alarmgrove.MERGED, 0, 1);
        EXPECT.ticket(x, 4, Alarmgrove.OPEN, 1, Alarmgrove.NONE);
        CHECK.due("ticketOf(10)", x.ticketOf(10), 1);
        CHECK.due("ticketOf(11)", x.ticketOf(11), 1);
        CHECK.due("ticketOf(13)", x.ticketOf(13), 4);
        CHECK.due("raise(2) gets a new number", x.raise(2), 5);
    }

    private static void ticketsMergeInTurn() {
        Alarmgrove x = new Alarmgrove();
        x.raise(0);
        x.raise(1);
        x.raise(2);
        x.need(3, 1);
        x.need(3, 2);
        CHECK.due("raise(3) unites 2 and 3", x.raise(3), 2);
        x.need(4, 0);
        x.need(4, 2);
        CHECK.due("raise(4) unites all", x.raise(4), 1);
        CHECK.due("ticketOf(1), not related to 4", x.ticketOf(1), 1);
        EXPECT.ticket(x, 1, Alarmgrove.OPEN, 5, Alarmgrove.NONE);
        EXPECT.ticket(x, 2, Alarmgrove.MERGED, 0, 1);
        EXPECT.ticket(x, 3, Alarmgrove.MERGED, 0, 2);
        for (int node = 0; node < 5; node++) {
            CHECK.due("clear(" + node + ")", x.clear(node), 4 - node);
        }
        EXPECT.ticket(x, 1, Alarmgrove.CLOSED, 0, Alarmgrove.NONE);
        EXPECT.ticket(x, 2, Alarmgrove.MERGED, 0, 1);
    }

    private static void nodesAtBothEndsMoveToo() {
        Alarmgrove x = new Alarmgrove();
        x.need(0, 5);
        x.need(13, 5);
        x.need(7, 5);
        x.need(0, 6);
        x.raise(7);
        x.raise(0);
        x.raise(13);
        CHECK.due("raise(6) joins 0", x.raise(6), 2);
        CHECK.due("raise(5) unites the tickets of 0, 7 and 13", x.raise(5), 1);
        for (int node : new int[] {0, 5, 6, 7, 13}) {
            CHECK.due("ticketOf(" + node + ") then", x.ticketOf(node), 1);
        }
        EXPECT.ticket(x, 1, Alarmgrove.OPEN, 5, Alarmgrove.NONE);
        EXPECT.ticket(x, 2, Alarmgrove.MERGED, 0, 1);
        EXPECT.ticket(x, 3, Alarmgrove.MERGED, 0, 1);
    }

    private static void needsDoNotChangeTickets() {
        Alarmgrove x = new Alarmgrove();
        x.raise(8);
        x.raise(9);
        x.need(9, 8);
        CHECK.due("ticketOf(9) after need", x.ticketOf(9), 2);
        CHECK.due("openTickets() after need", x.openTickets(), 2);
        x.need(9, 7);
        CHECK.due("raise(7) joins 9, and 8 not with it", x.raise(7), 2);
        x.release(9, 7);
        CHECK.due("ticketOf(7) after release", x.ticketOf(7), 2);
        EXPECT.ticket(x, 2, Alarmgrove.OPEN, 2, Alarmgrove.NONE);
        x.clear(9);
        CHECK.due("raise(9) unites with 8 alone", x.raise(9), 1);
        EXPECT.ticket(x, 1, Alarmgrove.OPEN, 2, Alarmgrove.NONE);
        EXPECT.ticket(x, 2, Alarmgrove.OPEN, 1, Alarmgrove.NONE);
    }

    private static void closedTicketsStayClosed() {
        Alarmgrove x = new Alarmgrove();
        x.raise(8);
        x.clear(8);
        EXPECT.ticket(x, 1, Alarmgrove.CLOSED, 0, Alarmgrove.NONE);
        CHECK.due("raise(8) again", x.raise(8), 2);
        EXPECT.ticket(x, 1, Alarmgrove.CLOSED, 0, Alarmgrove.NONE);
        CHECK.due("openTickets()", x.openTickets(), 1);
    }
}
