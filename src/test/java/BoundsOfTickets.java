/** What stands ahead of promise 1 about tickets, and the sentences of promises 19 to 23. */
final class BoundsOfTickets {
    private static final int[] NEVER_NUMBERS = {0, -1, -2, -32, -300, 158, 256, 299, 300, 301, 302, 512, 65537,
        Integer.MIN_VALUE, Integer.MIN_VALUE + 1, Integer.MAX_VALUE};

    private final Check check;
    private final Expect expect;

    BoundsOfTickets(Check check) {
        this.check = check;
        this.expect = new Expect(check);
    }

    void all() {
        numbersFrom1();
        openAsLongAsItHasNodes();
        joinsThoseAboveAndBelow();
        joinsNoOthers();
        severalBecomeOne();
        mostBecomeOne();
        newNumbers();
        closedWithoutNodes();
        needsChangeNoTickets();
        openTickets();
        ticketOf();
        ticketState();
        ticketSize();
        mergedInto();
        mergedIntoOneThatMerges();
        asManyTicketsAsCanBe();
    }

    private void numbersFrom1() {
        check.under(0, "Each raised node belongs to a ticket, which has a number from 1 on");
        Alarmgrove x = new Alarmgrove();
        for (int node = 13; node >= 0; node--) {
            check.due("raise(" + node + ")", x.raise(node), 14 - node);
            check.due("ticketOf(" + node + ")", x.ticketOf(node), 14 - node);
        }
        check.due("ticketState(0)", x.ticketState(0), Alarmgrove.UNUSED);
    }

    private void openAsLongAsItHasNodes() {
        check.under(0, "A ticket is OPEN as long as it has nodes");
        Alarmgrove x = Grove.with(new int[][] {{1, 0}, {2, 0}}, 0, 1, 2);
        expect.ticket(x, 1, Alarmgrove.OPEN, 3, Alarmgrove.NONE);
        x.clear(0);
        expect.ticket(x, 1, Alarmgrove.OPEN, 2, Alarmgrove.NONE);
        x.clear(1);
        expect.ticket(x, 1, Alarmgrove.OPEN, 1, Alarmgrove.NONE);
        Grove.tickOften(x, 100, 100);
        expect.ticket(x, 1, Alarmgrove.OPEN, 1, Alarmgrove.NONE);
    }

    private static final String JOINS = "When a node is raised, it joins the ticket of the raised nodes "
        + "that depend on it or that it depends on";

    private void joinsThoseAboveAndBelow() {
        check.under(0, JOINS);
        int[][] needs = {{5, 4}, {4, 3}, {3, 2}};
        check.due("raise(4) above raised 3", Grove.with(needs, 9, 3).raise(4), 2);
        check.due("raise(3) below raised 4", Grove.with(needs, 9, 4).raise(3), 2);
        check.due("raise(5) above raised 2, with quiet nodes between", Grove.with(needs, 9, 2).raise(5), 2);
        check.due("raise(2) below raised 5, with quiet nodes between", Grove.with(needs, 9, 5).raise(2), 2);
        check.due("raise(0) at the top of 14", Grove.made(x -> {
            Grove.chain(x);
            x.raise(13);
        }).raise(0), 1);
        check.due("raise(13) at the bottom of 14", Grove.made(x -> {
            Grove.chain(x);
            x.raise(0);
        }).raise(13), 1);
    }

    private void joinsNoOthers() {
        check.under(0, JOINS);
        check.due("raise(5) beside 6, with the same need", Grove.with(new int[][] {{5, 4}, {6, 4}}, 6).raise(5), 2);
        check.due("raise(5) beside 6, with the same user", Grove.with(new int[][] {{4, 5}, {4, 6}}, 6).raise(5), 2);
        Alarmgrove x = Grove.with(new int[][] {{5, 4}, {6, 4}}, 5, 4);
        x.clear(4);
        check.due("raise(6) related to a node alone that was in the ticket", x.raise(6), 2);
        check.due("ticketSize(1)", x.ticketSize(1), 1);
    }

    private void severalBecomeOne() {
        check.under(0, "If these have several tickets, all of them become one: the one with the lowest number "
            + "gets the nodes of the others, which are MERGED into it");
        Alarmgrove x = Grove.with(new int[][] {{0, 7}, {13, 7}, {8, 5}, {8, 6}}, 4, 13, 5, 0, 6);
        check.due("raise(8) unites 5 and 6", x.raise(8), 3);
        x.need(7, 5);
        check.due("raise(7) unites 0, 5 and 13: the lowest number is of the highest node", x.raise(7), 2);
        expect.ticket(x, 1, Alarmgrove.OPEN, 1, Alarmgrove.NONE);
        expect.ticket(x, 2, Alarmgrove.OPEN, 6, Alarmgrove.NONE);
        expect.ticket(x, 3, Alarmgrove.MERGED, 0, 2);
        expect.ticket(x, 4, Alarmgrove.MERGED, 0, 2);
        expect.ticket(x, 5, Alarmgrove.MERGED, 0, 3);
        for (int node : new int[] {0, 5, 6, 7, 8, 13}) {
            check.due("ticketOf(" + node + ")", x.ticketOf(node), 2);
        }
        check.due("ticketOf(4)", x.ticketOf(4), 1);
    }

    private void mostBecomeOne() {
        Alarmgrove x = new Alarmgrove();
        for (int node = 13; node > 0; node--) {
            x.need(0, node);
            x.raise(node);
        }
        check.due("openTickets() of 13", x.openTickets(), 13);
        check.due("raise(0) unites 13 tickets", x.raise(0), 1);
        check.due("openTickets() then", x.openTickets(), 1);
        expect.ticket(x, 1, Alarmgrove.OPEN, 14, Alarmgrove.NONE);
        for (int number = 2; number < 14; number++) {
            expect.ticket(x, number, Alarmgrove.MERGED, 0, 1);
        }
        expect.ticket(x, 14, Alarmgrove.UNUSED, 0, Alarmgrove.NONE);
    }

    private void newNumbers() {
        check.under(0, "If there are no such nodes, a new ticket gets the node; "
            + "its number is 1 more than that of the ticket that was new before");
        Alarmgrove x = Grove.with(new int[][] {{2, 1}, {3, 1}}, 2);
        check.due("raise(3)", x.raise(3), 2);
        check.due("raise(1) takes no new number", x.raise(1), 1);
        check.due("raise(9) after tickets merged", x.raise(9), 3);
        x.clear(9);
        check.due("raise(9) after the newest ticket closed", x.raise(9), 4);
        x.clear(9);
        check.due("raise(0) after it closed", x.raise(0), 5);
        Check.outcome(() -> x.raise(0));
        Check.outcome(() -> x.raise(14));
        check.due("raise(8) after refused calls", x.raise(8), 6);
    }

    private void closedWithoutNodes() {
        check.under(0, "When a node is cleared, it leaves its ticket, which is CLOSED if it has no nodes then");
        Alarmgrove x = Grove.with(new int[][] {{2, 1}}, 1, 2);
        x.clear(2);
        expect.ticket(x, 1, Alarmgrove.OPEN, 1, Alarmgrove.NONE);
        check.due("ticketOf(2) when it left", x.ticketOf(2), Alarmgrove.NONE);
        x.clear(1);
        expect.ticket(x, 1, Alarmgrove.CLOSED, 0, Alarmgrove.NONE);
        check.due("raise(1) again", x.raise(1), 2);
        expect.ticket(x, 1, Alarmgrove.CLOSED, 0, Alarmgrove.NONE);
        Alarmgrove y = Grove.with(new int[][] {{3, 1}, {3, 2}}, 1, 2, 3);
        for (int node = 1; node < 4; node++) {
            y.clear(node);
        }
        expect.ticket(y, 1, Alarmgrove.CLOSED, 0, Alarmgrove.NONE);
        expect.ticket(y, 2, Alarmgrove.MERGED, 0, 1);
    }

    private void needsChangeNoTickets() {
        check.under(0, "Changes of needs do not change tickets");
        Alarmgrove x = Grove.with(new int[][] {{3, 2}}, 1, 2, 3);
        x.need(2, 1);
        expect.ticket(x, 1, Alarmgrove.OPEN, 1, Alarmgrove.NONE);
        expect.ticket(x, 2, Alarmgrove.OPEN, 2, Alarmgrove.NONE);
        x.release(3, 2);
        expect.ticket(x, 2, Alarmgrove.OPEN, 2, Alarmgrove.NONE);
        check.due("ticketOf(3) without the need", x.ticketOf(3), 2);
        x.clear(3);
        check.due("raise(3) without the need", x.raise(3), 3);
        x.clear(2);
        check.due("raise(2) with the new need", x.raise(2), 1);
    }

    private void openTickets() {
        check.under(19, "Returns how many tickets are open");
        Alarmgrove x = new Alarmgrove();
        check.due("openTickets() at first", x.openTickets(), 0);
        Grove.raiseAll(x);
        check.due("openTickets() of 14 nodes", x.openTickets(), 14);
        x.clear(0);
        check.due("openTickets() with one closed", x.openTickets(), 13);
        x.need(0, 1);
        x.need(0, 2);
        x.raise(0);
        check.due("openTickets() with one closed and one merged", x.openTickets(), 12);
        for (int node = 0; node < 14; node++) {
            x.clear(node);
        }
        check.due("openTickets() with all closed or merged", x.openTickets(), 0);
    }

    private void ticketOf() {
        Alarmgrove x = Grove.with(new int[][] {}, 13, 0);
        check.under(20, "Returns the ticket of a node; NONE if it is not raised");
        check.due("ticketOf(13)", x.ticketOf(13), 1);
        check.due("ticketOf(0)", x.ticketOf(0), 2);
        for (int node = 0; node < 14; node++) {
            check.due("ticketOf(" + node + ") at first", new Alarmgrove().ticketOf(node), Alarmgrove.NONE);
        }
        x.clear(13);
        check.due("ticketOf(13) when cleared", x.ticketOf(13), Alarmgrove.NONE);
        x.raise(13);
        check.due("ticketOf(13) when raised again", x.ticketOf(13), 3);
        check.under(20, "Throws IndexOutOfBoundsException if there is no such node");
        expect.nodesAlone("ticketOf", Grove::raiseAll, Alarmgrove::ticketOf);
    }

    /** Ticket 1 open, 2 merged into it, 3 closed, 4 never used. */
    private static Alarmgrove allStates() {
        return Grove.made(x -> {
            x.need(7, 5);
            x.need(7, 6);
            x.raise(5);
            x.raise(6);
            x.raise(7);
            Grove.flutter(x, 9, 1);
        });
    }

    private void ticketState() {
        check.under(21, "Returns the state of the ticket with a number, whatever the number is: "
            + "UNUSED, OPEN, CLOSED or MERGED");
        Alarmgrove x = allStates();
        check.due("ticketState(1)", x.ticketState(1), Alarmgrove.OPEN);
        check.due("ticketState(2)", x.ticketState(2), Alarmgrove.MERGED);
        check.due("ticketState(3)", x.ticketState(3), Alarmgrove.CLOSED);
        check.due("ticketState(4)", x.ticketState(4), Alarmgrove.UNUSED);
        for (int number : NEVER_NUMBERS) {
            check.due("ticketState(" + number + ")", x.ticketState(number), Alarmgrove.UNUSED);
            check.due("ticketState(" + number + ") at first", new Alarmgrove().ticketState(number), Alarmgrove.UNUSED);
        }
        check.due("ticketState(1) at first", new Alarmgrove().ticketState(1), Alarmgrove.UNUSED);
    }

    private void ticketSize() {
        check.under(22, "Returns how many nodes belong to the ticket with a number, whatever the number is");
        Alarmgrove x = allStates();
        check.due("ticketSize(1) of an open one", x.ticketSize(1), 3);
        check.due("ticketSize(2) of a merged one", x.ticketSize(2), 0);
        check.due("ticketSize(3) of a closed one", x.ticketSize(3), 0);
        check.due("ticketSize(4) of an unused one", x.ticketSize(4), 0);
        for (int number : NEVER_NUMBERS) {
            check.due("ticketSize(" + number + ")", x.ticketSize(number), 0);
            check.due("ticketSize(" + number + ") at first", new Alarmgrove().ticketSize(number), 0);
        }
    }

    private void mergedInto() {
        check.under(23, "Returns the number; NONE if it was not merged, or no ticket has had the number");
        Alarmgrove x = allStates();
        check.due("mergedInto(1) of an open one", x.mergedInto(1), Alarmgrove.NONE);
        check.due("mergedInto(2) of a merged one", x.mergedInto(2), 1);
        check.due("mergedInto(3) of a closed one", x.mergedInto(3), Alarmgrove.NONE);
        check.due("mergedInto(4) of an unused one", x.mergedInto(4), Alarmgrove.NONE);
        for (int number : NEVER_NUMBERS) {
            check.due("mergedInto(" + number + ")", x.mergedInto(number), Alarmgrove.NONE);
            check.due("mergedInto(" + number + ") at first", new Alarmgrove().mergedInto(number), Alarmgrove.NONE);
        }
    }

    private void mergedIntoOneThatMerges() {
        check.under(23, "Returns the number of the ticket into which a ticket was merged "
            + "(which may have been merged into another one since)");
        Alarmgrove x = Grove.with(new int[][] {{10, 2}, {10, 3}, {11, 1}, {11, 2}, {12, 0}, {12, 1}}, 0, 1, 2, 3);
        check.due("raise(10) unites 3 and 4", x.raise(10), 3);
        check.due("raise(11) unites 2 and 3", x.raise(11), 2);
        check.due("raise(12) unites 1 and 2", x.raise(12), 1);
        check.due("mergedInto(4)", x.mergedInto(4), 3);
        check.due("mergedInto(3)", x.mergedInto(3), 2);
        check.due("mergedInto(2)", x.mergedInto(2), 1);
        check.due("mergedInto(1)", x.mergedInto(1), Alarmgrove.NONE);
        check.due("ticketSize(1)", x.ticketSize(1), 7);
        for (int node : new int[] {0, 1, 2, 3, 10, 11, 12}) {
            x.clear(node);
        }
        check.due("mergedInto(4) when all are closed", x.mergedInto(4), 3);
    }

    /** 300 events bring at most 157 tickets: 13 nodes stay raised, and the last one is raised 144 times. */
    private void asManyTicketsAsCanBe() {
        Alarmgrove x = new Alarmgrove();
        for (int node = 0; node < 13; node++) {
            x.raise(node);
        }
        Grove.flutter(x, 13, 143);
        check.under(9, "Returns the number of its ticket");
        check.due("raise(13) as event 300", x.raise(13), 157);
        check.under(19, "Returns how many tickets are open");
        check.due("openTickets() at 300 events", x.openTickets(), 14);
        check.under(21, "Returns the state of the ticket with a number, whatever the number is: "
            + "UNUSED, OPEN, CLOSED or MERGED");
        expect.ticket(x, 13, Alarmgrove.OPEN, 1, Alarmgrove.NONE);
        expect.ticket(x, 14, Alarmgrove.CLOSED, 0, Alarmgrove.NONE);
        expect.ticket(x, 156, Alarmgrove.CLOSED, 0, Alarmgrove.NONE);
        expect.ticket(x, 157, Alarmgrove.OPEN, 1, Alarmgrove.NONE);
        for (int number : NEVER_NUMBERS) {
            expect.ticket(x, number, Alarmgrove.UNUSED, 0, Alarmgrove.NONE);
        }
    }
}
