import java.util.List;

/** The sentences that stand ahead of promise 1 and hold for all calls: use, nodes, time, exceptions, needs, alarms. */
final class BoundsOfTerms {
    private static final Class<IndexOutOfBoundsException> NOT_THERE = IndexOutOfBoundsException.class;
    private static final Class<IllegalArgumentException> NOT_SO = IllegalArgumentException.class;
    private static final Class<IllegalStateException> NOT_NOW = IllegalStateException.class;

    private final Check check;

    BoundsOfTerms(Check check) {
        this.check = check;
    }

    void all() {
        constants();
        the512thCall();
        fourteenNodes();
        timeFrom0();
        exceptionsChangeNothing();
        theFirstNamedException();
        needsAtFirst();
        dependingByManySteps();
        noNodeDependsOnItself();
        raisedFromAndUntil();
        flapsByThreeRaises();
        flapsWithinTenTicks();
        stateGoesByRank();
    }

    private void constants() {
        check.under(0, "The constants: NONE = -1: There is none");
        check.due("NONE", Alarmgrove.NONE, -1);
        check.under(0, "QUIET = 0, SHOWN = 1, FLAPPING = 2, SUPPRESSED = 3: States of nodes");
        check.due("QUIET", Alarmgrove.QUIET, 0);
        check.due("SHOWN", Alarmgrove.SHOWN, 1);
        check.due("FLAPPING", Alarmgrove.FLAPPING, 2);
        check.due("SUPPRESSED", Alarmgrove.SUPPRESSED, 3);
        check.under(0, "UNUSED = 0, OPEN = 1, CLOSED = 2, MERGED = 3: States of tickets; "
            + "UNUSED: no ticket has had the number");
        check.due("UNUSED", Alarmgrove.UNUSED, 0);
        check.due("OPEN", Alarmgrove.OPEN, 1);
        check.due("CLOSED", Alarmgrove.CLOSED, 2);
        check.due("MERGED", Alarmgrove.MERGED, 3);
        check.under(0, "RAISED = 0, CLEARED = 1: Kinds of events");
        check.due("RAISED", Alarmgrove.RAISED, 0);
        check.due("CLEARED", Alarmgrove.CLEARED, 1);
    }

    private void the512thCall() {
        check.under(0, "An object is used for at most 512 calls after it has been made; what later calls answer is free");
        check.due("tick(100) as call 512", after511().tick(100), 21100);
        check.due("raise(5) as call 512", after511().raise(5), 77);
        check.due("clear(2) as call 512", after511().clear(2), 0);
        check.due("need(5, 6) as call 512", after511().need(5, 6), true);
        check.due("release(1, 0) as call 512", after511().release(1, 0), true);
        check.due("height(2) as call 512", after511().height(2), 2);
        check.due("eventTime(299) is refused as call 512", Check.outcome(() -> after511().eventTime(299)),
            "throws.IndexOutOfBoundsException");
        check.due("eventTime(298) as call 512", after511().eventTime(298), 0);
        check.due("causeByTrying(0) as call 512", after511().causeByTrying(0), 2);
    }

    /** Two needs, 299 events at time 0 and 210 ticks: 511 calls; node 2 is raised then. */
    private static Alarmgrove after511() {
        return Grove.made(x -> {
            x.need(2, 1);
            x.need(1, 0);
            Grove.flutter(x, 5, 74);
            x.raise(1);
            Grove.flutter(x, 2, 74);
            x.clear(1);
            x.raise(2);
            Grove.tickOften(x, 210, 100);
        });
    }

    private void fourteenNodes() {
        check.under(0, "There are 14 nodes, 0 to 13");
        Alarmgrove x = Grove.made(Grove::raiseAll);
        for (int node = 0; node < 14; node++) {
            check.due("state(" + node + ") of 14 raised nodes", x.state(node), Alarmgrove.SHOWN);
        }
        check.due("nodesThatAre(SHOWN) of 14 raised nodes", x.nodesThatAre(Alarmgrove.SHOWN), 14);
        check.dueThrow("state(-1)", NOT_THERE, () -> x.state(-1));
        check.dueThrow("state(14)", NOT_THERE, () -> x.state(14));
    }

    private void timeFrom0() {
        check.under(0, "Time is counted in ticks, from 0 on");
        Alarmgrove x = Grove.made(grove -> grove.raise(4));
        check.due("now() at first", x.now(), 0);
        check.due("eventTime(0) at first", x.eventTime(0), 0);
        check.due("tick(1) at first", x.tick(1), 1);
    }

    private static final String EXCEPTIONS = "A call that throws an exception changes nothing; "
        + "of several exceptions that apply, the one that its throws clause names first is thrown";

    private void exceptionsChangeNothing() {
        check.under(0, EXCEPTIONS);
        refusedByAll("new object", x -> { });
        refusedByAll("busy object", BoundsOfTerms::busy);
        refusedByAll("full object", Grove::fill);
        Grove.Recipe busy = BoundsOfTerms::busy;
        List<String> before = Answers.after(busy);
        for (int node : new int[] {1, 2, 5}) {
            refused("busy: raise of a raised node", busy, before, NOT_NOW, x -> x.raise(node));
        }
        for (int node : new int[] {0, 3, 9}) {
            refused("busy: clear of a quiet node", busy, before, NOT_NOW, x -> x.clear(node));
        }
        refused("busy: need in a round of two", busy, before, NOT_SO, x -> x.need(1, 2));
        refused("busy: need in a round of three", busy, before, NOT_SO, x -> x.need(0, 2));
        Grove.Recipe full = Grove::fill;
        List<String> beforeFull = Answers.after(full);
        for (int node : new int[] {0, 6, 7, 13}) {
            refused("full: raise(" + node + ")", full, beforeFull, NOT_NOW, x -> x.raise(node));
            refused("full: clear(" + node + ")", full, beforeFull, NOT_NOW, x -> x.clear(node));
        }
    }

    /** Some of all: needs, raised nodes that are shown, suppressed and flapping, tickets of all states. */
    private static void busy(Alarmgrove x) {
        x.need(2, 1);
        x.need(1, 0);
        x.need(5, 4);
        x.raise(2);
        x.raise(8);
        x.clear(8);
        x.tick(5);
        x.raise(0);
        x.raise(5);
        x.need(4, 1);
        x.raise(4);
        x.clear(4);
        x.raise(1);
        Grove.flutter(x, 9, 3);
        x.clear(0);
        x.tick(2);
    }

    private void refusedByAll(String what, Grove.Recipe recipe) {
        List<String> before = Answers.after(recipe);
        for (int wrong : new int[] {-1, 14, 32}) {
            refused(what + ": need(wrong, 3)", recipe, before, NOT_THERE, x -> x.need(wrong, 3));
            refused(what + ": need(3, wrong)", recipe, before, NOT_THERE, x -> x.need(3, wrong));
            refused(what + ": release(wrong, 1)", recipe, before, NOT_THERE, x -> x.release(wrong, 1));
            refused(what + ": release(2, wrong)", recipe, before, NOT_THERE, x -> x.release(2, wrong));
            refused(what + ": needs(wrong, 1)", recipe, before, NOT_THERE, x -> x.needs(wrong, 1));
            refused(what + ": dependsOn(2, wrong)", recipe, before, NOT_THERE, x -> x.dependsOn(2, wrong));
            refused(what + ": height(wrong)", recipe, before, NOT_THERE, x -> x.height(wrong));
            refused(what + ": raise(wrong)", recipe, before, NOT_THERE, x -> x.raise(wrong));
            refused(what + ": clear(wrong)", recipe, before, NOT_THERE, x -> x.clear(wrong));
            refused(what + ": state(wrong)", recipe, before, NOT_THERE, x -> x.state(wrong));
            refused(what + ": raises(wrong, 5)", recipe, before, NOT_THERE, x -> x.raises(wrong, 5));
            refused(what + ": ticketOf(wrong)", recipe, before, NOT_THERE, x -> x.ticketOf(wrong));
            refused(what + ": isPlausible(wrong)", recipe, before, NOT_THERE, x -> x.isPlausible(wrong));
            refused(what + ": causeOf(wrong)", recipe, before, NOT_THERE, x -> x.causeOf(wrong));
            refused(what + ": cause(wrong)", recipe, before, NOT_THERE, x -> x.cause(wrong));
            refused(what + ": causeByTrying(wrong)", recipe, before, NOT_THERE, x -> x.causeByTrying(wrong));
            refused(what + ": greedyCause(wrong)", recipe, before, NOT_THERE, x -> x.greedyCause(wrong));
        }
        for (int wrong : new int[] {-1, 300}) {
            refused(what + ": eventKind(wrong)", recipe, before, NOT_THERE, x -> x.eventKind(wrong));
            refused(what + ": eventNode(wrong)", recipe, before, NOT_THERE, x -> x.eventNode(wrong));
            refused(what + ": eventTime(wrong)", recipe, before, NOT_THERE, x -> x.eventTime(wrong));
            refused(what + ": eventLength(wrong)", recipe, before, NOT_THERE, x -> x.eventLength(wrong));
        }
        refused(what + ": need(3, 3)", recipe, before, NOT_SO, x -> x.need(3, 3));
        refused(what + ": tick(0)", recipe, before, NOT_SO, x -> x.tick(0));
        refused(what + ": tick(101)", recipe, before, NOT_SO, x -> x.tick(101));
        refused(what + ": nodesThatAre(4)", recipe, before, NOT_SO, x -> x.nodesThatAre(4));
        refused(what + ": raises(2, 0)", recipe, before, NOT_SO, x -> x.raises(2, 0));
        refused(what + ": raises(2, 1001)", recipe, before, NOT_SO, x -> x.raises(2, 1001));
    }

    private void refused(String what, Grove.Recipe recipe, List<String> before,
            Class<? extends RuntimeException> want, Grove.Recipe call) {
        check.dueThrow(what, want, () -> {
            call.go(Grove.made(recipe));
            return 0;
        });
        List<String> after = Answers.after(x -> {
            recipe.go(x);
            try {
                call.go(x);
            } catch (RuntimeException e) {
                // That it is the right one is looked at above.
            }
        });
        check.due(what + ": what changes by it", Answers.difference(before, after), "");
    }

    private void theFirstNamedException() {
        check.under(0, EXCEPTIONS);
        Alarmgrove x = Grove.made(Grove::fill);
        check.dueThrow("need(14, 14), no node and both the same", NOT_THERE, () -> Check.asLong(x.need(14, 14)));
        check.dueThrow("need(-1, -1), no node and both the same", NOT_THERE, () -> Check.asLong(x.need(-1, -1)));
        check.dueThrow("raise(14), no node and 300 events", NOT_THERE, () -> x.raise(14));
        check.dueThrow("raise(-1), no node and 300 events", NOT_THERE, () -> x.raise(-1));
        check.dueThrow("clear(14), no node and 300 events", NOT_THERE, () -> x.clear(14));
        check.dueThrow("clear(-1), no node and 300 events", NOT_THERE, () -> x.clear(-1));
        check.dueThrow("raises(14, 0), no node and too few ticks", NOT_THERE, () -> x.raises(14, 0));
        check.dueThrow("raises(-1, 1001), no node and too many ticks", NOT_THERE, () -> x.raises(-1, 1001));
    }

    private void needsAtFirst() {
        check.under(0, "A node can need other nodes directly; at first none needs another one");
        Alarmgrove x = new Alarmgrove();
        for (int node = 0; node < 14; node++) {
            for (int other = 0; other < 14; other++) {
                check.due("needs(" + node + ", " + other + ") at first", x.needs(node, other), false);
            }
        }
        for (int other = 1; other < 14; other++) {
            check.due("need(0, " + other + ") of a node that comes to need all others", x.need(0, other), true);
        }
        for (int other = 0; other < 14; other++) {
            check.due("needs(0, " + other + ") then", x.needs(0, other), other > 0);
        }
    }

    private void dependingByManySteps() {
        check.under(0, "A node depends on another one if it needs it directly, or needs a node directly that depends on it");
        Alarmgrove x = Grove.made(Grove::chain);
        for (int node = 0; node < 14; node++) {
            check.due("dependsOn(" + node + ", 13) in a chain", x.dependsOn(node, 13), node < 13);
            check.due("dependsOn(0, " + node + ") in a chain", x.dependsOn(0, node), node > 0);
            check.due("dependsOn(13, " + node + ") in a chain", x.dependsOn(13, node), false);
        }
        x.release(6, 7);
        check.due("dependsOn(0, 6) above a gap", x.dependsOn(0, 6), true);
        check.due("dependsOn(0, 7) across a gap", x.dependsOn(0, 7), false);
        Alarmgrove y = Grove.with(new int[][] {{5, 3}, {6, 3}, {5, 4}});
        check.due("dependsOn(5, 6) of two with the same need", y.dependsOn(5, 6), false);
        check.due("dependsOn(3, 4) of two with the same user", y.dependsOn(3, 4), false);
    }

    private void noNodeDependsOnItself() {
        check.under(0, "No node ever depends on itself");
        Alarmgrove x = new Alarmgrove();
        for (int step = 0; step < 14; step++) {
            for (int node = 0; node < 14; node++) {
                int one = node;
                int other = (node + step) % 14;
                Check.outcome(() -> Check.asLong(x.need(one, other)));
            }
            for (int node = 0; node < 14; node++) {
                check.due("dependsOn(" + node + ", itself) after step " + step, x.dependsOn(node, node), false);
            }
        }
    }

    private void raisedFromAndUntil() {
        check.under(0, "A node is raised from the time at which its alarm is raised until it is cleared");
        Alarmgrove x = new Alarmgrove();
        check.due("state(4) ahead of it", x.state(4), Alarmgrove.QUIET);
        x.raise(4);
        check.due("state(4) at the very time", x.state(4), Alarmgrove.SHOWN);
        Grove.tickOften(x, 300, 100);
        check.due("state(4) long after", x.state(4), Alarmgrove.SHOWN);
        check.due("ticketOf(4) long after", x.ticketOf(4), 1);
        x.clear(4);
        check.due("state(4) at the very time of its clearing", x.state(4), Alarmgrove.QUIET);
        check.due("causes() at the very time of its clearing", x.causes(), 0);
    }

    private static final String FLAPS = "A node flaps if its alarm was raised at least three times "
        + "in the last 10 ticks, that is, later than 10 ticks before now";

    private void flapsByThreeRaises() {
        check.under(0, FLAPS);
        Alarmgrove x = new Alarmgrove();
        x.raise(0);
        check.due("state(0) raised once", x.state(0), Alarmgrove.SHOWN);
        x.clear(0);
        x.raise(0);
        check.due("state(0) raised twice, with three events", x.state(0), Alarmgrove.SHOWN);
        x.raise(13);
        check.due("state(13) is not raised by the raises of 0", x.state(13), Alarmgrove.SHOWN);
        x.clear(0);
        x.raise(0);
        check.due("state(0) raised three times", x.state(0), Alarmgrove.FLAPPING);
        check.due("state(13) beside a node that flaps", x.state(13), Alarmgrove.SHOWN);
        x.clear(0);
        x.raise(0);
        check.due("state(0) raised four times", x.state(0), Alarmgrove.FLAPPING);
    }

    private void flapsWithinTenTicks() {
        check.under(0, FLAPS);
        for (int start : new int[] {0, 1, 9, 10, 11, 100}) {
            Alarmgrove x = new Alarmgrove();
            if (start > 0) {
                x.tick(start);
            }
            Grove.flutter(x, 3, 2);
            x.raise(3);
            x.tick(9);
            check.due("state(3) raised thrice 9 ticks ago, at " + start, x.state(3), Alarmgrove.FLAPPING);
            x.tick(1);
            check.due("state(3) raised thrice 10 ticks ago, at " + start, x.state(3), Alarmgrove.SHOWN);
        }
        Alarmgrove y = new Alarmgrove();
        Grove.flutter(y, 3, 100);
        y.tick(1);
        Grove.flutter(y, 3, 1);
        y.tick(9);
        y.raise(3);
        check.due("state(3) with a hundred raises 10 ticks ago and two since", y.state(3), Alarmgrove.SHOWN);
        y.clear(3);
        y.raise(3);
        check.due("state(3) with one 9 ticks ago and two now", y.state(3), Alarmgrove.FLAPPING);
        y.tick(1);
        check.due("state(3) with two a tick ago alone", y.state(3), Alarmgrove.SHOWN);
    }

    private void stateGoesByRank() {
        check.under(0, "The state of a node is QUIET if it is not raised; otherwise FLAPPING if it flaps; "
            + "otherwise SUPPRESSED if it depends on a node that is raised; otherwise SHOWN");
        Alarmgrove x = Grove.with(new int[][] {{2, 1}, {1, 0}}, 0);
        Grove.flutter(x, 2, 3);
        check.due("state(2) that would flap and be suppressed, but is not raised", x.state(2), Alarmgrove.QUIET);
        x.raise(2);
        check.due("state(2) that flaps and would be suppressed", x.state(2), Alarmgrove.FLAPPING);
        check.due("state(0) below one that flaps", x.state(0), Alarmgrove.SHOWN);
        x.tick(10);
        check.due("state(2) above raised 0, indirectly", x.state(2), Alarmgrove.SUPPRESSED);
        check.due("state(1) between two raised nodes", x.state(1), Alarmgrove.QUIET);
        x.raise(1);
        x.clear(0);
        check.due("state(2) above raised 1, directly", x.state(2), Alarmgrove.SUPPRESSED);
        check.due("state(1) above quiet 0 and below raised 2", x.state(1), Alarmgrove.SHOWN);
        x.clear(1);
        check.due("state(2) above quiet nodes alone", x.state(2), Alarmgrove.SHOWN);
        x.raise(0);
        x.release(1, 0);
        check.due("state(2) no longer above raised 0", x.state(2), Alarmgrove.SHOWN);
    }
}
