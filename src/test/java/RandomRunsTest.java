import java.lang.reflect.InvocationTargetException;
import java.lang.reflect.Method;
import java.util.ArrayList;
import java.util.List;

/** Runs of 512 calls, made by a generator of numbers that starts the same each time, compared with ReferenceHall. */
public final class RandomRunsTest {
    private static final int CALLS = 512;

    /** Numbers that look random and are the same in each run. */
    private static final class Numbers {
        private long state;

        Numbers(long seed) {
            state = seed * 0x9E3779B97F4A7C15L + 1;
        }

        int below(int bound) {
            state = state * 6364136223846793005L + 1442695040888963407L;
            return (int) ((state >>> 33) % bound);
        }

        boolean once(int in) {
            return below(in) == 0;
        }
    }

    /** What the calls of a run are like: the names of methods from which the next one is drawn. */
    private enum Kind {
        EVERYTHING("machine lead lead lead lead accept accept states least areSame apart apartAt together words "
                + "type type type type clear run accepts learner step step step step step check rows columns row column "
                + "asked compared isDone believes example example example merge acceptShare meanAsked isSound"),
        LEARNING("step step step step step step step step step step step step lead lead accept check "
                + "rows columns row column asked compared isDone believes type clear isSound least learner machine"),
        RESTLESS("step step step step lead accept lead accept lead accept lead accept check "
                + "rows columns row column asked compared isDone believes type clear isSound meanAsked"),
        EXAMPLES("type type type type type type type type clear example example example merge run accepts "
                + "words states least apart apartAt areSame acceptShare machine"),
        COMPARING("lead lead lead accept areSame apart apartAt apartAt least together words merge machine isSound "
                + "acceptShare states run accepts type clear"),
        /** Up to 24 examples, some of them long, with a merge now and then. */
        MERGING(""),
        /** A learner whose machine changes between its steps, so that it keeps many words. */
        GROWING(""),
        /** Learners whose machine changes when they are done, looked at behind each step. */
        STUDYING("");

        final String[] names;

        Kind(String names) {
            this.names = names.split(" ");
        }
    }

    private final Numbers numbers;
    private final Kind kind;
    private final LearnHall hall = new LearnHall();
    private final ReferenceHall reference = new ReferenceHall();
    private final List<String> told = new ArrayList<>();
    private final int letters;
    private final int states;
    /** By which sums of letters words are accepted, so that examples can be merged to few states; 3 is by chance. */
    private final int rule;
    private int typedSum;
    private int calls;
    private boolean isWrong;

    private RandomRunsTest(Kind kind, int seed) {
        this.kind = kind;
        numbers = new Numbers(seed * 31L + kind.ordinal());
        letters = 1 + numbers.below(3);
        int few = kind == Kind.STUDYING ? 5 : 1;
        states = numbers.once(3) ? 8 : few + numbers.below(9 - few);
        rule = numbers.below(4);
    }

    public static void main(String[] args) throws ReflectiveOperationException {
        int runs = args.length > 0 ? Integer.parseInt(args[0]) : 250;
        int wrong = 0;
        for (Kind kind : Kind.values()) {
            for (int seed = 0; seed < runs; seed++) {
                wrong += new RandomRunsTest(kind, seed).isWrong() ? 1 : 0;
            }
        }
        if (wrong > 0) {
            System.out.println(wrong + " runs are wrong");
            System.exit(1);
        }
    }

    private boolean isWrong() throws ReflectiveOperationException {
        switch (kind) {
            case MERGING:
                mergeRun();
                break;
            case GROWING:
                growRun();
                break;
            case STUDYING:
                studyRun();
                break;
            default:
                drawnRun();
        }
        return isWrong;
    }

    private void drawnRun() throws ReflectiveOperationException {
        // Most runs begin with machines whose letters lead anywhere, and with learners.
        if (kind != Kind.EXAMPLES && !numbers.once(10)) {
            int machines = 1 + numbers.below(2);
            for (int m = 0; m < machines; m++) {
                anyMachine(m);
            }
            ask("learner", 0, numbers.once(2));
            ask("learner", numbers.below(machines), numbers.once(2));
        }
        while (calls < CALLS) {
            askAny(kind.names[numbers.below(kind.names.length)]);
        }
    }

    /** A machine whose letters lead anywhere; or one of which a letter leads on, so that words that tell are long. */
    private void anyMachine(int machine) throws ReflectiveOperationException {
        ask("machine", letters, states);
        boolean isLong = kind == Kind.STUDYING ? !numbers.once(4) : numbers.once(2);
        int most = isLong && !numbers.once(3) ? states : 2;
        for (int s = 0; s < states; s++) {
            int on = isLong ? numbers.below(letters) : -1;
            for (int l = 0; l < letters; l++) {
                int back = isLong ? numbers.below(s + 1) : numbers.below(states);
                ask("lead", machine, s, (char) ('a' + l), l == on ? Math.min(s + 1, states - 1) : back);
            }
            ask("accept", machine, s, numbers.once(most));
        }
    }

    private void mergeRun() throws ReflectiveOperationException {
        int longest = 1 + numbers.below(12);
        int merged = 0;
        while (calls < CALLS - 80) {
            ask("clear");
            int length = numbers.once(2) ? longest : numbers.below(longest + 1);
            for (int i = 0; i < length; i++) {
                ask("type", (char) ('a' + numbers.below(letters)));
            }
            ask("example", numbers.once(30) ? numbers.once(2) : isRight());
            if (numbers.once(8)) {
                mergeAndLook(merged);
                merged++;
            }
        }
        mergeAndLook(merged);
    }

    /** Merges, and looks where each letter of the new machine leads. */
    private void mergeAndLook(int machine) throws ReflectiveOperationException {
        ask("merge", letters);
        for (int s = 0; s < 8; s++) {
            for (int l = 0; l < letters; l++) {
                ask("lead", machine, s, (char) ('a' + l), 0);
            }
            ask("accept", machine, s, false);
        }
    }

    private void growRun() throws ReflectiveOperationException {
        anyMachine(0);
        ask("learner", 0, numbers.once(8));
        int changes = 1 + numbers.below(2);
        int most = 17 + numbers.below(5);
        while (calls < CALLS - 90) {
            if (reference.rows(0) >= most) {
                acceptAny(false);
                acceptAny(true);
            }
            ask("step", 0);
            if (reference.isDone(0)) {
                ask("check", 0);
            }
            for (int i = 0; i < changes; i++) {
                ask("lead", 0, numbers.below(states), (char) ('a' + numbers.below(letters)), numbers.below(states));
                ask("accept", 0, numbers.below(states), numbers.once(2));
            }
        }
        for (String name : new String[] {"asked", "compared", "rows", "columns"}) {
            ask(name, 0);
        }
        for (int i = 0; i < 20; i++) {
            ask("row", 0, i);
            ask("column", 0, i);
            ask("column", 0, i + 20);
        }
        ask("believes", 0);
    }

    private void studyRun() throws ReflectiveOperationException {
        int most = 1 + numbers.below(4);
        for (int l = 0; l < most; l++) {
            anyMachine(l);
            ask("learner", l, !numbers.once(4));
        }
        while (calls < CALLS - 30) {
            int learner = numbers.below(most);
            if (reference.isDone(learner)) {
                ask("lead", learner, numbers.below(states), letter(), numbers.below(states));
                ask("accept", learner, numbers.below(states), numbers.once(states));
                ask("check", learner);
            }
            ask("step", learner);
            ask("asked", learner);
            ask("row", learner, reference.rows(learner) - 1);
            ask("column", learner, reference.columns(learner) - 1);
        }
        for (int learner = 0; learner < most; learner++) {
            for (String name : new String[] {"rows", "columns", "compared", "isDone", "believes"}) {
                ask(name, learner);
            }
        }
    }

    /** Drops most rows of the learner, so that it may grow again. */
    private void acceptAny(boolean isAny) throws ReflectiveOperationException {
        for (int s = 0; s < states; s++) {
            ask("accept", 0, s, isAny && numbers.once(2));
        }
        ask("check", 0);
    }

    private void askAny(String name) throws ReflectiveOperationException {
        switch (name) {
            case "machine":
                ask(name, numbers.once(3) ? numbers.below(5) : letters, numbers.once(3) ? numbers.below(10) : states);
                break;
            case "lead":
                ask(name, machine(), state(), letter(), state());
                break;
            case "accept":
                ask(name, machine(), state(), numbers.once(2));
                break;
            case "areSame", "apart":
                ask(name, machine(), machine());
                break;
            case "apartAt":
                ask(name, machine(), machine(), numbers.below(5) - 1);
                break;
            case "words":
                ask(name, machine(), numbers.below(33) - 1);
                break;
            case "type":
                ask(name, letter());
                break;
            case "learner":
                ask(name, machine(), numbers.once(2));
                break;
            case "step", "check", "rows", "columns", "asked", "compared", "isDone", "believes":
                ask(name, learner());
                break;
            case "row", "column":
                ask(name, learner(), numbers.once(5) ? numbers.below(30) - 1 : numbers.below(5));
                break;
            case "example":
                ask(name, numbers.once(12) ? numbers.once(2) : isRight());
                break;
            case "merge":
                ask(name, numbers.once(8) ? numbers.below(6) - 1 : numbers.once(2) ? letters : 3);
                break;
            case "clear", "acceptShare", "meanAsked", "isSound":
                ask(name);
                break;
            default:
                ask(name, machine());
        }
    }

    private boolean isRight() {
        return rule == 3 ? numbers.once(2) : typedSum % (rule + 2) == 1;
    }

    private int machine() {
        return numbers.once(20) ? numbers.below(9) - 1 : numbers.below(2);
    }

    private int state() {
        return numbers.once(30) ? numbers.below(12) - 2 : numbers.below(states);
    }

    private char letter() {
        return numbers.once(40) ? (char) ('a' - 1 + numbers.below(5)) : (char) ('a' + numbers.below(letters));
    }

    private int learner() {
        return numbers.once(40) ? numbers.below(7) - 1 : numbers.below(2);
    }

    /** Makes a call of both, and tells the run if the answers differ; after that, nothing more is asked. */
    private void ask(String name, Object... arguments) throws ReflectiveOperationException {
        calls++;
        if (isWrong) {
            return;
        }
        Class<?>[] types = new Class<?>[arguments.length];
        StringBuilder text = new StringBuilder(name).append('(');
        for (int i = 0; i < types.length; i++) {
            Class<?> type = arguments[i].getClass();
            types[i] = type == Integer.class ? int.class : type == Character.class ? char.class : boolean.class;
            text.append(i == 0 ? "" : ", ").append(arguments[i]);
        }
        String due = answer(ReferenceHall.class.getMethod(name, types), reference, arguments);
        String got = answer(LearnHall.class.getMethod(name, types), hall, arguments);
        told.add(text.append(") = ").append(got).toString());
        if (name.equals("clear")) {
            typedSum = 0;
        } else if (name.equals("type") && !due.startsWith("throws")) {
            typedSum += (char) arguments[0] - 'a' + 1;
        }
        if (!due.equals(got)) {
            isWrong = true;
            System.out.println(kind + " run, due is " + due + " in the last row:");
            told.forEach(System.out::println);
        }
    }

    private static String answer(Method method, Object target, Object[] arguments) throws IllegalAccessException {
        try {
            return String.valueOf(method.invoke(target, arguments));
        } catch (InvocationTargetException e) {
            return "throws." + e.getCause().getClass().getSimpleName();
        }
    }
}
