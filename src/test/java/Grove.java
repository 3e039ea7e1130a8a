/** Makes objects for the tests. */
final class Grove {
    /** What is called on a new object before a test asks it. */
    interface Recipe {
        void go(Alarmgrove x);
    }

    /** Nodes that are none, those among them whose bit or rest would be that of a node. */
    static final int[] WRONG_NODES = {-1, 14, 15, 16, 28, 31, 32, 45, 46, 64, 256, -13, -14, -32,
        Integer.MIN_VALUE, Integer.MIN_VALUE + 3, Integer.MAX_VALUE};

    private Grove() {
    }

    static Alarmgrove made(Recipe recipe) {
        Alarmgrove x = new Alarmgrove();
        recipe.go(x);
        return x;
    }

    static Alarmgrove with(int[][] needs, int... raised) {
        return made(x -> {
            for (int[] need : needs) {
                x.need(need[0], need[1]);
            }
            for (int node : raised) {
                x.raise(node);
            }
        });
    }

    /** Each node but 13 needs the next one: 0 depends on all others. */
    static void chain(Alarmgrove x) {
        for (int node = 0; node < 13; node++) {
            x.need(node, node + 1);
        }
    }

    static void raiseAll(Alarmgrove x) {
        for (int node = 0; node < 14; node++) {
            x.raise(node);
        }
    }

    static void tickOften(Alarmgrove x, int calls, int ticks) {
        for (int call = 0; call < calls; call++) {
            x.tick(ticks);
        }
    }

    /** Raises and clears a node so often: each time two events. */
    static void flutter(Alarmgrove x, int node, int times) {
        for (int time = 0; time < times; time++) {
            x.raise(node);
            x.clear(node);
        }
    }

    /** 300 events, the last three at the times 0, 4 and 5; node 6, and 7 that needs it, are raised then. */
    static void fill(Alarmgrove x) {
        x.need(7, 6);
        flutter(x, 7, 149);
        x.tick(4);
        x.raise(7);
        x.tick(1);
        x.raise(6);
    }
}
