/** Promises 24 to 30: plausible nodes, the best and the greedy diagnosis. */
public final class CausesTest {
    private static final Class<IndexOutOfBoundsException> NOT_THERE = IndexOutOfBoundsException.class;

    private static final Check CHECK = new Check();

    public static void main(String[] args) {
        plausibleNodes();
        noAlarmNoCause();
        fewestNodesAreBest();
        moreRaisedNodesAreBetter();
        theLowestNodeDecides();
        greedyTakesTheMost();
        greedyPrefersRaisedNodes();
        causeOfIsTheLowest();
        allNodesRaised();
        wrongNodesAndPlacesAreRefused();
        CHECK.end("CausesTest");
    }

    private static Alarmgrove with(int[][] needs, int[] raised) {
        Alarmgrove x = new Alarmgrove();
        for (int[] need : needs) {
            x.need(need[0], need[1]);
        }
        for (int node : raised) {
            x.raise(node);
        }
        return x;
    }

    private static void dueBest(String what, Alarmgrove x, int... best) {
        CHECK.due(what + ": causes()", x.causes(), best.length);
        for (int place = 0; place < best.length; place++) {
            CHECK.due(what + ": cause(" + place + ")", x.cause(place), best[place]);
            CHECK.due(what + ": causeByTrying(" + place + ")", x.causeByTrying(place), best[place]);
        }
        for (int beyond : new int[] {-1, best.length, 14, 32, Integer.MIN_VALUE, Integer.MAX_VALUE}) {
            CHECK.dueThrow(what + ": cause(" + beyond + ")", NOT_THERE, () -> x.cause(beyond));
            CHECK.dueThrow(what + ": causeByTrying(" + beyond + ")", NOT_THERE, () -> x.causeByTrying(beyond));
        }
    }

    private static void dueGreedy(String what, Alarmgrove x, int... greedy) {
        CHECK.due(what + ": greedyCauses()", x.greedyCauses(), greedy.length);
        for (int place = 0; place < greedy.length; place++) {
            CHECK.due(what + ": greedyCause(" + place + ")", x.greedyCause(place), greedy[place]);
        }
        for (int beyond : new int[] {-1, greedy.length, 14, Integer.MIN_VALUE, Integer.MAX_VALUE}) {
            CHECK.dueThrow(what + ": greedyCause(" + beyond + ")", NOT_THERE, () -> x.greedyCause(beyond));
        }
    }

    private static void plausibleNodes() {
        Alarmgrove x = with(new int[][] {{5, 1}, {6, 1}, {1, 0}}, new int[] {5});
        CHECK.due("isPlausible(5) raised", x.isPlausible(5), true);
        CHECK.due("isPlausible(6) quiet, needed by none", x.isPlausible(6), false);
        CHECK.due("isPlausible(1) needed by a quiet one too", x.isPlausible(1), false);
        x.raise(6);
        CHECK.due("isPlausible(1) needed by raised ones", x.isPlausible(1), true);
        CHECK.due("isPlausible(0) needed by raised ones indirectly alone", x.isPlausible(0), false);
        x.raise(1);
        CHECK.due("isPlausible(0) needed by a raised one", x.isPlausible(0), true);
        x.release(1, 0);
        CHECK.due("isPlausible(0) needed by none", x.isPlausible(0), false);
    }

    private static void noAlarmNoCause() {
        Alarmgrove x = with(new int[][] {{5, 1}}, new int[] {5});
        x.clear(5);
        dueBest("no alarm", x);
        dueGreedy("no alarm", x);
        CHECK.due("causeOf(5) without alarm", x.causeOf(5), Alarmgrove.NONE);
    }

    private static void fewestNodesAreBest() {
        Alarmgrove x = with(new int[][] {{5, 9}, {6, 9}, {7, 9}}, new int[] {5, 6, 7, 2});
        dueBest("one below three", x, 2, 9);
        dueGreedy("one below three", x, 9, 2);
        x.need(8, 9);
        dueBest("9 not plausible any more", x, 2, 5, 6, 7);
        dueGreedy("9 not plausible any more", x, 2, 5, 6, 7);
    }

    private static void moreRaisedNodesAreBetter() {
        Alarmgrove x = with(new int[][] {{5, 1}}, new int[] {5});
        dueBest("5 itself before the lower 1", x, 5);
        Alarmgrove y = with(new int[][] {{5, 1}, {6, 1}, {5, 9}, {6, 9}}, new int[] {9, 5, 6});
        dueBest("raised 9 before quiet 1", y, 9);
        Alarmgrove z = with(new int[][] {{6, 0}, {7, 0}, {7, 1}, {8, 1}, {8, 2}, {6, 2}}, new int[] {6, 7, 8});
        dueBest("one raised node of two before none", z, 0, 8);
    }

    private static void theLowestNodeDecides() {
        Alarmgrove x = with(new int[][] {{7, 3}, {8, 3}, {7, 4}, {8, 4}}, new int[] {7, 8});
        dueBest("3 before 4", x, 3);
        Alarmgrove y = with(new int[][] {{8, 3}, {9, 3}, {9, 4}, {10, 4}, {11, 5}, {8, 5}}, new int[] {8, 9, 10, 11});
        dueBest("two cover a ring", y, 4, 5);
        Alarmgrove z = with(new int[][] {{8, 0}, {9, 0}, {10, 5}, {11, 5}, {8, 1}, {10, 1}, {9, 4}, {11, 4}},
            new int[] {8, 9, 10, 11});
        dueBest("0 and 5 before 1 and 4", z, 0, 5);
    }

    private static void greedyTakesTheMost() {
        int[][] needs = {{8, 5}, {9, 5}, {10, 5}, {11, 5}, {8, 6}, {9, 6}, {12, 6}, {10, 7}, {11, 7}, {13, 7}};
        Alarmgrove x = with(needs, new int[] {8, 9, 10, 11, 12, 13});
        dueBest("two suffice", x, 6, 7);
        dueGreedy("the greedy way takes three", x, 5, 12, 13);
    }

    private static void greedyPrefersRaisedNodes() {
        Alarmgrove x = with(new int[][] {{5, 1}, {6, 1}, {5, 9}, {6, 9}}, new int[] {5, 6});
        dueGreedy("the lowest of equals", x, 1);
        x.need(9, 0);
        x.raise(9);
        dueGreedy("raised 9 with the most", x, 9);
        Alarmgrove y = with(new int[][] {{6, 2}, {4, 3}}, new int[] {4, 6});
        dueGreedy("raised ones before lower quiet ones", y, 4, 6);
        Alarmgrove z = with(new int[][] {{7, 2}, {8, 2}, {7, 3}, {10, 9}, {11, 9}}, new int[] {3, 7, 8, 9, 10, 11});
        dueGreedy("most first, whatever its number", z, 9, 3, 8);
    }

    private static void causeOfIsTheLowest() {
        int[][] needs = {{8, 3}, {9, 3}, {9, 4}, {10, 4}};
        Alarmgrove x = with(needs, new int[] {8, 9, 10});
        dueBest("two explain three", x, 3, 10);
        CHECK.due("causeOf(8)", x.causeOf(8), 3);
        CHECK.due("causeOf(9)", x.causeOf(9), 3);
        CHECK.due("causeOf(10)", x.causeOf(10), 10);
        CHECK.due("causeOf(3) plausible, not raised", x.causeOf(3), Alarmgrove.NONE);
        CHECK.due("causeOf(0)", x.causeOf(0), Alarmgrove.NONE);
        Alarmgrove y = with(new int[][] {{9, 5}, {9, 2}}, new int[] {5, 2, 9});
        dueBest("two raised below", y, 2, 5);
        CHECK.due("causeOf(9) of two", y.causeOf(9), 2);
        CHECK.due("causeOf(5) itself", y.causeOf(5), 5);
    }

    private static void allNodesRaised() {
        Alarmgrove x = new Alarmgrove();
        int[] all = new int[14];
        for (int node = 0; node < 14; node++) {
            all[node] = node;
            x.raise(node);
        }
        dueBest("14 nodes alone", x, all);
        dueGreedy("14 nodes alone", x, all);
        for (int node = 1; node < 14; node++) {
            x.need(node - 1, node);
        }
        dueBest("14 nodes in a chain", x, 13);
        dueGreedy("14 nodes in a chain", x, 13);
        CHECK.due("causeOf(0) in a chain", x.causeOf(0), 13);
    }

    private static void wrongNodesAndPlacesAreRefused() {
        Alarmgrove x = new Alarmgrove();
        for (int wrong : new int[] {-1, 14, Integer.MIN_VALUE, Integer.MAX_VALUE}) {
            CHECK.dueThrow("isPlausible(" + wrong + ")", NOT_THERE, () -> Check.asLong(x.isPlausible(wrong)));
            CHECK.dueThrow("causeOf(" + wrong + ")", NOT_THERE, () -> x.causeOf(wrong));
        }
    }
}
