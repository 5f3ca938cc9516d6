import java.util.ArrayList;
import java.util.List;

/** All that further calls can find out about a school, those that change it included: it is of no use afterwards. */
final class Trace {
    private final LearnHall hall;
    private final List<String> told = new ArrayList<>();
    private int left;
    private int machines;
    private int learners;

    private Trace(LearnHall hall, int calls) {
        this.hall = hall;
        left = calls;
    }

    /** The answers of so many calls at most. */
    static List<String> of(LearnHall hall, int calls) {
        Trace trace = new Trace(hall, calls);
        // Ahead of all others, as those that are refused may themselves leave something behind.
        trace.ask("example(true)");
        trace.look();
        trace.add();
        trace.learn();
        trace.takeApart();
        trace.say();
        return trace.told;
    }

    private String ask(String call) {
        if (left == 0) {
            return "";
        }
        left--;
        String answer = Calls.answer(hall, call);
        told.add(call + " = " + answer);
        return answer;
    }

    private boolean is(String call) {
        return left > 0 && !ask(call).startsWith("throws");
    }

    private void look() {
        while (is("states(" + machines + ")")) {
            for (String name : new String[] {"run", "accepts", "least", "together"}) {
                ask(name + "(" + machines + ")");
            }
            ask("words(" + machines + ", 9)");
            machines++;
        }
        while (is("asked(" + learners + ")")) {
            for (String name : new String[] {"compared", "isDone", "believes", "rows", "columns"}) {
                ask(name + "(" + learners + ")");
            }
            for (int row = 0; is("row(" + learners + ", " + row + ")"); row++) {
            }
            for (int column = 0; is("column(" + learners + ", " + column + ")"); column++) {
            }
            learners++;
        }
        ask("acceptShare()");
        ask("meanAsked()");
        ask("isSound()");
    }

    private void add() {
        ask("example(false)");
        ask("type(a)");
        ask("clear()");
        if (is("merge(3)")) {
            machines++;
        }
        if (is("machine(1, 1)")) {
            machines++;
        }
        ask("learner(0, false)");
    }

    private void learn() {
        for (int learner = 0; learner < learners; learner++) {
            for (String name : new String[] {"step", "step", "asked", "check", "asked", "rows", "step", "columns"}) {
                ask(name + "(" + learner + ")");
            }
        }
    }

    private void takeApart() {
        for (int machine = 0; machine < machines; machine++) {
            for (int state = 0; is("accept(" + machine + ", " + state + ", false)"); state++) {
                for (char letter = 'a'; letter <= 'c'; letter++) {
                    ask("lead(" + machine + ", " + state + ", " + letter + ", 0)");
                }
            }
        }
    }

    /** Says of short words that they are accepted: those that are examples already answer otherwise. */
    private void say() {
        for (String word : ", a, b, c, aa, ab, ba, bb, aaa".split(", ")) {
            ask("clear()");
            for (char letter : word.toCharArray()) {
                ask("type(" + letter + ")");
            }
            ask("example(true)");
        }
    }
}
