import java.lang.reflect.InvocationTargetException;
import java.lang.reflect.Method;
import java.util.ArrayList;
import java.util.List;

/** Runs of 512 calls, made by a generator of numbers that starts the same each time, compared with ReferenceHall. */
public final class RandomRunsTest {
    private static final int CALLS = 512;

    private record Call(Method method, Method reference, Object[] arguments) {
    }

    /** Numbers that look random and are the same in each run. */
    private static final class Numbers {
        private long state;

        Numbers(long seed) {
            state = seed * 0x9E3779B97F4A7C15L + 1;
        }

        int below(int bound) {
            state = state * 6364136223846793005L + 1442695040888963407L;
            return (int) ((state >>> 33) % bound);
        }

        boolean once(int in) {
            return below(in) == 0;
        }
    }

    /** What the calls of a run are like: how often each method is called, in a row of names that is drawn from. */
    private enum Kind {
        EVERYTHING("machine lead lead lead lead accept accept states least areSame apart apartAt together words "
                + "type type type type clear run accepts learner step step step step step check rows columns row column "
                + "asked compared isDone believes example example example merge acceptShare meanAsked isSound"),
        LEARNING("step step step step step step step step step step step step lead lead accept check "
                + "rows columns row column asked compared isDone believes type clear isSound least learner machine"),
        RESTLESS("step step step step lead accept lead accept lead accept lead accept check "
                + "rows columns row column asked compared isDone believes type clear isSound meanAsked"),
        EXAMPLES("type type type type type type type type clear example example example merge run accepts "
                + "words states least apart apartAt areSame acceptShare machine"),
        COMPARING("lead lead lead accept areSame apart apartAt apartAt least together words merge machine isSound "
                + "acceptShare states run accepts type clear");

        final String[] names;

        Kind(String names) {
            this.names = names.split(" ");
        }
    }

    private final Numbers numbers;
    private final Kind kind;
    private final LearnHall hall = new LearnHall();
    private final ReferenceHall reference = new ReferenceHall();
    private final List<String> told = new ArrayList<>();
    private final int letters;
    private final int states;
    /** An accepting row of letters decides about examples, so that some can be merged to few states. */
    private final int rule;
    private int typedSum;
    private int made;

    private RandomRunsTest(Kind kind, int seed) {
        this.kind = kind;
        numbers = new Numbers(seed * 31L + kind.ordinal());
        letters = 1 + numbers.below(3);
        states = numbers.once(3) ? 8 : 1 + numbers.below(8);
        rule = numbers.below(4);
    }

    public static void main(String[] args) throws ReflectiveOperationException {
        int runs = args.length > 0 ? Integer.parseInt(args[0]) : 300;
        int wrong = 0;
        for (Kind kind : Kind.values()) {
            for (int seed = 0; seed < runs; seed++) {
                wrong += new RandomRunsTest(kind, seed).isAsDue() ? 0 : 1;
            }
        }
        if (wrong > 0) {
            System.out.println(wrong + " runs are wrong");
            System.exit(1);
        }
    }

    private boolean isAsDue() throws ReflectiveOperationException {
        prepare();
        while (made < CALLS) {
            Call call = draw();
            if (!isAnsweredAsDue(call)) {
                return false;
            }
        }
        return true;
    }

    /** Most runs begin with a machine whose letters lead anywhere, and with learners. */
    private void prepare() throws ReflectiveOperationException {
        if (kind == Kind.EXAMPLES || numbers.once(10)) {
            return;
        }
        int machines = 1 + numbers.below(2);
        for (int m = 0; m < machines; m++) {
            isAnsweredAsDue(call("machine", letters, states));
            for (int s = 0; s < states; s++) {
                for (int l = 0; l < letters; l++) {
                    isAnsweredAsDue(call("lead", m, s, (char) ('a' + l), numbers.below(states)));
                }
                isAnsweredAsDue(call("accept", m, s, numbers.once(2)));
            }
        }
        isAnsweredAsDue(call("learner", 0, numbers.once(2)));
        isAnsweredAsDue(call("learner", numbers.below(machines), numbers.once(2)));
    }

    private boolean isAnsweredAsDue(Call call) throws ReflectiveOperationException {
        made++;
        String due = answer(call.reference, reference, call.arguments);
        String got = answer(call.method, hall, call.arguments);
        StringBuilder text = new StringBuilder(call.method.getName()).append('(');
        for (Object argument : call.arguments) {
            text.append(argument).append(' ');
        }
        told.add(text.append(") = ").append(got).toString());
        if (call.method.getName().equals("type") && got.length() < 3) {
            typedSum += (char) call.arguments[0] - 'a' + 1;
        } else if (call.method.getName().equals("clear")) {
            typedSum = 0;
        }
        if (!due.equals(got)) {
            System.out.println(kind + " run, due is " + due + " in the last row:");
            told.forEach(System.out::println);
            return false;
        }
        return true;
    }

    private static String answer(Method method, Object target, Object[] arguments) throws IllegalAccessException {
        try {
            return String.valueOf(method.invoke(target, arguments));
        } catch (InvocationTargetException e) {
            return "throws." + e.getCause().getClass().getSimpleName();
        }
    }

    private Call draw() throws ReflectiveOperationException {
        String name = kind.names[numbers.below(kind.names.length)];
        switch (name) {
            case "machine":
                return call(name, numbers.once(3) ? numbers.below(5) : letters, numbers.once(3) ? numbers.below(10) : states);
            case "lead":
                return call(name, machine(), state(), letter(), state());
            case "accept":
                return call(name, machine(), state(), numbers.once(2));
            case "areSame", "apart":
                return call(name, machine(), machine());
            case "apartAt":
                return call(name, machine(), machine(), numbers.below(5) - 1);
            case "words":
                return call(name, machine(), numbers.below(33) - 1);
            case "type":
                return call(name, letter());
            case "learner":
                return call(name, machine(), numbers.once(2));
            case "step", "check", "rows", "columns", "asked", "compared", "isDone", "believes":
                return call(name, learner());
            case "row", "column":
                return call(name, learner(), numbers.once(5) ? numbers.below(30) - 1 : numbers.below(5));
            case "example":
                return call(name, numbers.once(12) ? numbers.once(2) : isRight());
            case "merge":
                return call(name, numbers.once(8) ? numbers.below(6) - 1 : numbers.once(2) ? letters : 3);
            case "clear", "acceptShare", "meanAsked", "isSound":
                return call(name);
            default:
                return call(name, machine());
        }
    }

    private boolean isRight() {
        return rule == 3 ? numbers.once(2) : typedSum % (rule + 2) == 1;
    }

    private int machine() {
        return numbers.once(20) ? numbers.below(9) - 1 : numbers.below(2);
    }

    private int state() {
        return numbers.once(30) ? numbers.below(12) - 2 : numbers.below(states);
    }

    private char letter() {
        return numbers.once(40) ? (char) ('a' - 1 + numbers.below(5)) : (char) ('a' + numbers.below(letters));
    }

    private int learner() {
        return numbers.once(40) ? numbers.below(7) - 1 : numbers.below(2);
    }

    private static Call call(String name, Object... arguments) throws ReflectiveOperationException {
        Class<?>[] types = new Class<?>[arguments.length];
        for (int i = 0; i < types.length; i++) {
            Class<?> kind = arguments[i].getClass();
            types[i] = kind == Integer.class ? int.class : kind == Character.class ? char.class : boolean.class;
        }
        return new Call(LearnHall.class.getMethod(name, types), ReferenceHall.class.getMethod(name, types), arguments);
    }
}
