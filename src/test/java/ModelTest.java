import java.util.ArrayList;
import java.util.List;
import java.util.Random;
import java.util.Set;

/** Long runs of mixed calls, the same ones each time, against the model. */
public final class ModelTest {
    private static final int RUNS = 160;
    private static final int CALLS = 512;
    private static final int[] ODD = {-1, 0, 1, 13, 14, 15, 31, 32, 100, 101, 300, 301, 1000, 1001,
        Integer.MIN_VALUE, Integer.MAX_VALUE};

    private static final Set<Integer> CHANGES = Set.of(0, 1, 5, 7, 8);

    private static final Check CHECK = new Check();

    private final Random random;
    private final int run;
    private final int share;
    private final Model model = new Model();
    private final List<int[]> changes = new ArrayList<>();
    private Alarmgrove x = new Alarmgrove();
    private int calls = 0;

    private ModelTest(int run) {
        this.run = run;
        this.random = new Random(7919L * run + 5);
        this.share = 2 + run % 7;
    }

    public static void main(String[] args) {
        for (int run = 0; run < RUNS; run++) {
            new ModelTest(run).go();
        }
        CHECK.end("ModelTest");
    }

    private void go() {
        for (int call = 0; call < CALLS; call++) {
            if (random.nextInt(10) < share) {
                changeOne();
            } else {
                askOne();
            }
        }
        askAll();
    }

    private void changeOne() {
        int kind = random.nextInt(20);
        int node = node();
        int other = node();
        if (kind < 6) {
            // Mostly upwards, so that the grove grows deep instead of being refused.
            boolean isTurned = random.nextInt(5) > 0 && node < other;
            ask(0, isTurned ? other : node, isTurned ? node : other);
        } else if (kind < 7) {
            ask(1, node, other);
        } else if (kind < 15) {
            ask(7, node, 0);
        } else if (kind < 18) {
            ask(8, node, 0);
        } else {
            ask(5, random.nextInt(8) == 0 ? odd() : 1 + random.nextInt(4), 0);
        }
    }

    private void askOne() {
        ask(2 + random.nextInt(27), random.nextInt(3) == 0 ? small() : node(), small());
    }

    private void askAll() {
        for (int node = -1; node < 15; node++) {
            for (int kind : new int[] {4, 9, 11, 13, 14, 15, 16, 18, 19, 20, 21, 22, 24, 25, 27, 28}) {
                ask(kind, node, 10);
            }
            for (int other = -1; other < 15; other++) {
                ask(2, node, other);
                ask(3, node, other);
            }
        }
        for (int number = 0; number < 303; number++) {
            for (int kind = 13; kind <= 21; kind++) {
                ask(kind, number, 0);
            }
        }
    }

    private int node() {
        return random.nextInt(40) == 0 ? odd() : random.nextInt(14);
    }

    private int small() {
        return random.nextInt(6) == 0 ? odd() : random.nextInt(20);
    }

    private int odd() {
        return ODD[random.nextInt(ODD.length)];
    }

    private void ask(int kind, int a, int b) {
        if (calls >= CALLS) {
            goAgain();
        }
        calls++;
        if (CHANGES.contains(kind)) {
            changes.add(new int[] {kind, a, b});
        }
        String want = Check.outcome(() -> ofModel(kind, a, b));
        String got = Check.outcome(() -> ofProgram(kind, a, b));
        CHECK.due("run " + run + ", call " + kind + " of " + a + ", " + b, got, want);
    }

    /** An object answers 512 calls alone, so further ones are put to a new object after the same changes. */
    private void goAgain() {
        x = new Alarmgrove();
        for (int[] change : changes) {
            Check.outcome(() -> ofProgram(change[0], change[1], change[2]));
        }
        calls = changes.size();
    }

    private long ofProgram(int kind, int a, int b) {
        return switch (kind) {
            case 0 -> Check.asLong(x.need(a, b));
            case 1 -> Check.asLong(x.release(a, b));
            case 2 -> Check.asLong(x.needs(a, b));
            case 3 -> Check.asLong(x.dependsOn(a, b));
            case 4 -> x.height(a);
            case 5 -> x.tick(a);
            case 6 -> x.now();
            case 7 -> x.raise(a);
            case 8 -> x.clear(a);
            case 9 -> x.state(a);
            case 10 -> x.nodesThatAre(a);
            case 11 -> x.raises(a, b);
            case 12 -> x.events();
            case 13 -> x.eventKind(a);
            case 14 -> x.eventNode(a);
            case 15 -> x.eventTime(a);
            case 16 -> x.eventLength(a);
            case 17 -> x.openTickets();
            case 18 -> x.ticketOf(a);
            case 19 -> x.ticketState(a);
            case 20 -> x.ticketSize(a);
            case 21 -> x.mergedInto(a);
            case 22 -> Check.asLong(x.isPlausible(a));
            case 23 -> x.causes();
            case 24 -> x.cause(a);
            case 25 -> x.causeByTrying(a);
            case 26 -> x.greedyCauses();
            case 27 -> x.greedyCause(a);
            default -> x.causeOf(a);
        };
    }

    private long ofModel(int kind, int a, int b) {
        return switch (kind) {
            case 0 -> Check.asLong(model.need(a, b));
            case 1 -> Check.asLong(model.release(a, b));
            case 2 -> Check.asLong(model.needs(a, b));
            case 3 -> Check.asLong(model.dependsOn(a, b));
            case 4 -> model.height(a);
            case 5 -> model.tick(a);
            case 6 -> model.now();
            case 7 -> model.raise(a);
            case 8 -> model.clear(a);
            case 9 -> model.state(a);
            case 10 -> model.nodesThatAre(a);
            case 11 -> model.raises(a, b);
            case 12 -> model.events();
            case 13 -> model.eventKind(a);
            case 14 -> model.eventNode(a);
            case 15 -> model.eventTime(a);
            case 16 -> model.eventLength(a);
            case 17 -> model.openTickets();
            case 18 -> model.ticketOf(a);
            case 19 -> model.ticketState(a);
            case 20 -> model.ticketSize(a);
            case 21 -> model.mergedInto(a);
            case 22 -> Check.asLong(model.isPlausible(a));
            case 23 -> model.causes();
            case 24 -> model.cause(a);
            case 25 -> model.causeByTrying(a);
            case 26 -> model.greedyCauses();
            case 27 -> model.greedyCause(a);
            default -> model.causeOf(a);
        };
    }
}
