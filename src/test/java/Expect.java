/** Answers that are due together. */
final class Expect {
    interface NodeCall {
        long of(Alarmgrove x, int node);
    }

    private static final Class<IndexOutOfBoundsException> NOT_THERE = IndexOutOfBoundsException.class;
    private static final int[] WRONG_PLACES = {-1, 14, 32, 300, Integer.MIN_VALUE, Integer.MAX_VALUE};

    private final Check check;

    Expect(Check check) {
        this.check = check;
    }

    void ticket(Alarmgrove x, int number, int state, int size, int target) {
        check.due("ticketState(" + number + ")", x.ticketState(number), state);
        check.due("ticketSize(" + number + ")", x.ticketSize(number), size);
        check.due("mergedInto(" + number + ")", x.mergedInto(number), target);
    }

    void best(String what, Alarmgrove x, int... best) {
        check.due(what + ": causes()", x.causes(), best.length);
        places(what + ": cause", x, Alarmgrove::cause, best);
        places(what + ": causeByTrying", x, Alarmgrove::causeByTrying, best);
    }

    void greedy(String what, Alarmgrove x, int... greedy) {
        check.due(what + ": greedyCauses()", x.greedyCauses(), greedy.length);
        places(what + ": greedyCause", x, Alarmgrove::greedyCause, greedy);
    }

    /** The call answers the nodes at the places from 0 on, and refuses all other places. */
    void places(String what, Alarmgrove x, NodeCall call, int... nodes) {
        for (int place = 0; place < nodes.length; place++) {
            check.due(what + "(" + place + ")", call.of(x, place), nodes[place]);
        }
        check.dueThrow(what + "(" + nodes.length + ")", NOT_THERE, () -> call.of(x, nodes.length));
        for (int wrong : WRONG_PLACES) {
            check.dueThrow(what + "(" + wrong + ")", NOT_THERE, () -> call.of(x, wrong));
        }
    }

    /** The call takes the first node and the last one, and refuses what is no node. */
    void nodesAlone(String what, Grove.Recipe recipe, NodeCall call) {
        for (int node : new int[] {0, 13}) {
            String outcome = Check.outcome(() -> call.of(Grove.made(recipe), node));
            check.due(what + " takes " + node, outcome.startsWith("throws."), false);
        }
        for (int wrong : Grove.WRONG_NODES) {
            check.dueThrow(what + " of " + wrong, NOT_THERE, () -> call.of(Grove.made(recipe), wrong));
        }
    }
}
