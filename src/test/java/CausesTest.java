/** Promises 24 to 30: plausible nodes, the best and the greedy diagnosis. */
public final class CausesTest {

    private static final Check CHECK = new Check();
    private static final Expect EXPECT = new Expect(CHECK);

    public static void main(String[] args) {
        plausibleNodes();
        noAlarmNoCause();
        fewestNodesAreBest();
        moreRaisedNodesAreBetter();
        theLowestNodeDecides();
        greedyTakesTheMost();
        greedyPrefersRaisedNodes();
        causeOfIsTheLowest();
        allNodesRaised();
        CHECK.end("CausesTest");
    }

    private static void plausibleNodes() {
        Alarmgrove x = Grove.with(new int[][] {{5, 1}, {6, 1}, {1, 0}}, 5);
        CHECK.due("isPlausible(5) raised", x.isPlausible(5), true);
        CHECK.due("isPlausible(6) quiet, needed by none", x.isPlausible(6), false);
        CHECK.due("isPlausible(1) needed by a quiet one too", x.isPlausible(1), false);
        x.raise(6);
        CHECK.due("isPlausible(1) needed by raised ones", x.isPlausible(1), true);
        CHECK.due("isPlausible(0) needed by raised ones indirectly alone", x.isPlausible(0), false);
        x.raise(1);
        CHECK.due("isPlausible(0) needed by a raised one", x.isPlausible(0), true);
        x.release(1, 0);
        CHECK.due("isPlausible(0) needed by none", x.isPlausible(0), false);
    }

    private static void noAlarmNoCause() {
        Alarmgrove x = Grove.with(new int[][] {{5, 1}}, 5);
        x.clear(5);
        EXPECT.best("no alarm", x);
        EXPECT.greedy("no alarm", x);
        CHECK.due("causeOf(5) without alarm", x.causeOf(5), Alarmgrove.NONE);
    }

    private static void fewestNodesAreBest() {
        Alarmgrove x = Grove.with(new int[][] {{5, 9}, {6, 9}, {7, 9}}, 5, 6, 7, 2);
        EXPECT.best("one below three", x, 2, 9);
        EXPECT.greedy("one below three", x, 9, 2);
        x.need(8, 9);
        EXPECT.best("9 not plausible any more", x, 2, 5, 6, 7);
        EXPECT.greedy("9 not plausible any more", x, 2, 5, 6, 7);
    }

    private static void moreRaisedNodesAreBetter() {
        Alarmgrove x = Grove.with(new int[][] {{5, 1}}, 5);
        EXPECT.best("5 itself before the lower 1", x, 5);
        Alarmgrove y = Grove.with(new int[][] {{5, 1}, {6, 1}, {5, 9}, {6, 9}}, 9, 5, 6);
        EXPECT.best("raised 9 before quiet 1", y, 9);
        Alarmgrove z = Grove.with(new int[][] {{6, 0}, {7, 0}, {7, 1}, {8, 1}, {8, 2}, {6, 2}}, 6, 7, 8);
        EXPECT.best("one raised node of two before none", z, 0, 8);
    }

    private static void theLowestNodeDecides() {
        Alarmgrove x = Grove.with(new int[][] {{7, 3}, {8, 3}, {7, 4}, {8, 4}}, 7, 8);
        EXPECT.best("3 before 4", x, 3);
        Alarmgrove y = Grove.with(new int[][] {{8, 3}, {9, 3}, {9, 4}, {10, 4}, {11, 5}, {8, 5}}, 8, 9, 10, 11);
        EXPECT.best("two cover a ring", y, 4, 5);
        Alarmgrove z = Grove.with(new int[][] {{8, 0}, {9, 0}, {10, 5}, {11, 5}, {8, 1}, {10, 1}, {9, 4}, {11, 4}},
            8, 9, 10, 11);
        EXPECT.best("0 and 5 before 1 and 4", z, 0, 5);
    }

    private static void greedyTakesTheMost() {
        int[][] needs = {{8, 5}, {9, 5}, {10, 5}, {11, 5}, {8, 6}, {9, 6}, {12, 6}, {10, 7}, {11, 7}, {13, 7}};
        Alarmgrove x = Grove.with(needs, 8, 9, 10, 11, 12, 13);
        EXPECT.best("two suffice", x, 6, 7);
        EXPECT.greedy("the greedy way takes three", x, 5, 12, 13);
    }

    private static void greedyPrefersRaisedNodes() {
        Alarmgrove x = Grove.with(new int[][] {{5, 1}, {6, 1}, {5, 9}, {6, 9}}, 5, 6);
        EXPECT.greedy("the lowest of equals", x, 1);
        x.need(9, 0);
        x.raise(9);
        EXPECT.greedy("raised 9 with the most", x, 9);
        Alarmgrove y = Grove.with(new int[][] {{6, 2}, {4, 3}}, 4, 6);
        EXPECT.greedy("raised ones before lower quiet ones", y, 4, 6);
        Alarmgrove z = Grove.with(new int[][] {{7, 2}, {8, 2}, {7, 3}, {10, 9}, {11, 9}}, 3, 7, 8, 9, 10, 11);
        EXPECT.greedy("most first, whatever its number", z, 9, 3, 8);
    }

    private static void causeOfIsTheLowest() {
        int[][] needs = {{8, 3}, {9, 3}, {9, 4}, {10, 4}};
        Alarmgrove x = Grove.with(needs, 8, 9, 10);
        EXPECT.best("two explain three", x, 3, 10);
        CHECK.due("causeOf(8)", x.causeOf(8), 3);
        CHECK.due("causeOf(9)", x.causeOf(9), 3);
        CHECK.due("causeOf(10)", x.causeOf(10), 10);
        CHECK.due("causeOf(3) plausible, not raised", x.causeOf(3), Alarmgrove.NONE);
        CHECK.due("causeOf(0)", x.causeOf(0), Alarmgrove.NONE);
        Alarmgrove y = Grove.with(new int[][] {{9, 5}, {9, 2}}, 5, 2, 9);
        EXPECT.best("two raised below", y, 2, 5);
        CHECK.due("causeOf(9) of two", y.causeOf(9), 2);
        CHECK.due("causeOf(5) itself", y.causeOf(5), 5);
    }

    private static void allNodesRaised() {
        Alarmgrove x = new Alarmgrove();
        int[] all = new int[14];
        for (int node = 0; node < 14; node++) {
            all[node] = node;
            x.raise(node);
        }
        EXPECT.best("14 nodes alone", x, all);
        EXPECT.greedy("14 nodes alone", x, all);
        for (int node = 1; node < 14; node++) {
            x.need(node - 1, node);
        }
        EXPECT.best("14 nodes in a chain", x, 13);
        EXPECT.greedy("14 nodes in a chain", x, 13);
        CHECK.due("causeOf(0) in a chain", x.causeOf(0), 13);
    }
}
