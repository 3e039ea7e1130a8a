import java.util.ArrayList;
import java.util.List;

/**
 * All that an object answers after a recipe. An object answers 512 calls alone, and some questions change it,
 * so each question is put to an object of its own.
 */
final class Answers {
    private interface Ask {
        long of(Alarmgrove x);
    }

    private record Question(String text, Ask ask) {
    }

    private static final int NODES = 14;
    private static final int SEVERAL_EVENTS = 302;
    private static final int SEVERAL_TICKETS = 160;

    private static final List<Question> QUESTIONS = questions();

    private Answers() {
    }

    static List<String> after(Grove.Recipe recipe) {
        List<String> answers = new ArrayList<>();
        for (Question question : QUESTIONS) {
            answers.add(Check.outcome(() -> question.ask().of(Grove.made(recipe))));
        }
        return answers;
    }

    /** The first question that is not answered alike, with both answers; empty if there is none. */
    static String difference(List<String> answers, List<String> others) {
        for (int place = 0; place < QUESTIONS.size(); place++) {
            if (!answers.get(place).equals(others.get(place))) {
                return QUESTIONS.get(place).text() + ": " + answers.get(place) + " and " + others.get(place);
            }
        }
        return "";
    }

    private static List<Question> questions() {
        List<Question> all = new ArrayList<>();
        addWhole(all);
        for (int node = 0; node < NODES; node++) {
            addNode(all, node);
            addFuture(all, node);
            for (int other = 0; other < NODES; other++) {
                addPair(all, node, other);
            }
        }
        for (int number = 0; number < SEVERAL_TICKETS; number++) {
            addTicket(all, number);
        }
        for (int event = 0; event < SEVERAL_EVENTS; event++) {
            addEvent(all, event);
        }
        return all;
    }

    private static void addWhole(List<Question> all) {
        all.add(new Question("now()", Alarmgrove::now));
        all.add(new Question("events()", Alarmgrove::events));
        all.add(new Question("openTickets()", Alarmgrove::openTickets));
        all.add(new Question("causes()", Alarmgrove::causes));
        all.add(new Question("greedyCauses()", Alarmgrove::greedyCauses));
        for (int state = Alarmgrove.QUIET; state <= Alarmgrove.SUPPRESSED; state++) {
            int one = state;
            all.add(new Question("nodesThatAre(" + one + ")", x -> x.nodesThatAre(one)));
        }
    }

    /** The questions about a node, those about the place of the same number among them. */
    private static void addNode(List<Question> all, int node) {
        all.add(new Question("height(" + node + ")", x -> x.height(node)));
        all.add(new Question("state(" + node + ")", x -> x.state(node)));
        all.add(new Question("raises(" + node + ", 10)", x -> x.raises(node, 10)));
        all.add(new Question("raises(" + node + ", 1000)", x -> x.raises(node, 1000)));
        all.add(new Question("ticketOf(" + node + ")", x -> x.ticketOf(node)));
        all.add(new Question("isPlausible(" + node + ")", x -> Check.asLong(x.isPlausible(node))));
        all.add(new Question("causeOf(" + node + ")", x -> x.causeOf(node)));
        all.add(new Question("cause(" + node + ")", x -> x.cause(node)));
        all.add(new Question("causeByTrying(" + node + ")", x -> x.causeByTrying(node)));
        all.add(new Question("greedyCause(" + node + ")", x -> x.greedyCause(node)));
    }

    /** What can be seen of a node only when it is raised or cleared later. */
    private static void addFuture(List<Question> all, int node) {
        all.add(new Question("tick(3), raise(" + node + ")", x -> {
            x.tick(3);
            return x.raise(node);
        }));
        all.add(new Question("tick(3), clear(" + node + ")", x -> {
            x.tick(3);
            return x.clear(node);
        }));
        all.add(new Question("tick(3), clear(" + node + "), eventLength of it", x -> {
            x.tick(3);
            x.clear(node);
            return x.eventLength(x.events() - 1);
        }));
    }

    private static void addPair(List<Question> all, int node, int other) {
        String pair = "(" + node + ", " + other + ")";
        all.add(new Question("needs" + pair, x -> Check.asLong(x.needs(node, other))));
        all.add(new Question("dependsOn" + pair, x -> Check.asLong(x.dependsOn(node, other))));
    }

    private static void addTicket(List<Question> all, int number) {
        all.add(new Question("ticketState(" + number + ")", x -> x.ticketState(number)));
        all.add(new Question("ticketSize(" + number + ")", x -> x.ticketSize(number)));
        all.add(new Question("mergedInto(" + number + ")", x -> x.mergedInto(number)));
    }

    private static void addEvent(List<Question> all, int event) {
        all.add(new Question("eventKind(" + event + ")", x -> x.eventKind(event)));
        all.add(new Question("eventNode(" + event + ")", x -> x.eventNode(event)));
        all.add(new Question("eventTime(" + event + ")", x -> x.eventTime(event)));
        all.add(new Question("eventLength(" + event + ")", x -> x.eventLength(event)));
    }
}
