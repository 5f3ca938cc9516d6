import java.util.NoSuchElementException;

/** Promises 2 to 11. */
public final class MachinesTest {
    private static final Class<IndexOutOfBoundsException> INDEX = IndexOutOfBoundsException.class;
    private static final Class<IllegalArgumentException> ARGUMENT = IllegalArgumentException.class;
    private static final Class<NoSuchElementException> NONE = NoSuchElementException.class;

    public static void main(String[] args) {
        machine();
        machineIsFull();
        lead();
        leadIsWrong();
        accept();
        states();
        least();
        areSame();
        apart();
        apartAt();
        together();
        words();
        Due.end();
    }

    private static void machine() {
        LearnHall hall = new LearnHall();
        int[][] wrong = {{0, 1}, {4, 1}, {1, 0}, {1, 9}, {-1, 1}, {1, -1}, {0, 0}, {4, 9},
            {Integer.MIN_VALUE, 1}, {1, Integer.MAX_VALUE}};
        for (int[] w : wrong) {
            Due.fails(hall, ARGUMENT, "machine(" + w[0] + ", " + w[1] + ")", () -> hall.machine(w[0], w[1]));
        }
        Due.is("machine(1, 1)", 0, hall.machine(1, 1));
        Due.is("machine(3, 8)", 1, hall.machine(3, 8));
        Due.is("machine(3, 1)", 2, hall.machine(3, 1));
        Due.is("machine(1, 8)", 3, hall.machine(1, 8));
        for (int s = 0; s < 8; s++) {
            for (char c = 'a'; c <= 'c'; c++) {
                Due.is("a new lead of " + s, s, hall.lead(1, s, c, s));
            }
            Due.is("a new accept of " + s, false, hall.accept(1, s, false));
        }
    }

    private static void machineIsFull() {
        LearnHall hall = new LearnHall();
        for (int i = 0; i < 6; i++) {
            Due.is("machine " + i, i, hall.machine(2, 2));
        }
        Due.fails(hall, IllegalStateException.class, "a 7th machine", () -> hall.machine(1, 1));
        Due.fails(hall, ARGUMENT, "a 7th machine without letters", () -> hall.machine(0, 1));
        Due.fails(hall, ARGUMENT, "a 7th machine of 9 states", () -> hall.machine(1, 9));
        Due.fails(hall, INDEX, "states(6)", () -> hall.states(6));
    }

    private static void lead() {
        LearnHall hall = new LearnHall();
        hall.machine(1, 2);
        hall.machine(3, 8);
        Due.is("lead(1, 7, c, 0)", 7, hall.lead(1, 7, 'c', 0));
        Due.is("lead(1, 7, c, 6)", 0, hall.lead(1, 7, 'c', 6));
        Due.is("lead(1, 7, b, 5)", 7, hall.lead(1, 7, 'b', 5));
        Due.is("lead(1, 0, c, 7)", 0, hall.lead(1, 0, 'c', 7));
        Due.is("lead(1, 7, c, 7)", 6, hall.lead(1, 7, 'c', 7));
        Due.is("lead(0, 1, a, 0)", 1, hall.lead(0, 1, 'a', 0));
        Due.is("lead(0, 1, a, 0) again", 0, hall.lead(0, 1, 'a', 0));
        Schools.type(hall, "cb");
        Due.is("run(1) of cb", 5, hall.run(1));
    }

    private static void leadIsWrong() {
        LearnHall hall = new LearnHall();
        int[][] wrong = {{0, 0, 'a', 0}, {-1, 0, 'a', 0}, {0, 0, 'z', 0}};
        for (int[] w : wrong) {
            Due.fails(hall, INDEX, "lead without machines", () -> hall.lead(w[0], w[1], (char) w[2], w[3]));
        }
        hall.machine(2, 3);
        int[][] outside = {{1, 0, 'a', 0}, {-1, 0, 'a', 0}, {0, 3, 'a', 0}, {0, -1, 'a', 0}, {0, 0, 'a', 3},
            {0, 0, 'a', -1}, {0, 3, 'c', 0}, {0, 0, 'c', 3}, {1, 0, 'c', 0}, {0, Integer.MAX_VALUE, 'a', 0},
            {0, 0, 'a', Integer.MIN_VALUE}};
        for (int[] w : outside) {
            Due.fails(hall, INDEX, "lead(" + w[0] + ", " + w[1] + ", " + (char) w[2] + ", " + w[3] + ")",
                    () -> hall.lead(w[0], w[1], (char) w[2], w[3]));
        }
        for (char letter : new char[] {'c', 'd', '`', 'A', 0, 0xffff}) {
            Due.fails(hall, ARGUMENT, "lead by " + (int) letter, () -> hall.lead(0, 0, letter, 1));
        }
        for (int s = 0; s < 3; s++) {
            Due.is("a after wrong leads", s, hall.lead(0, s, 'a', s));
            Due.is("b after wrong leads", s, hall.lead(0, s, 'b', s));
        }
    }

    private static void accept() {
        LearnHall hall = new LearnHall();
        Due.fails(hall, INDEX, "accept without machines", () -> hall.accept(0, 0, true));
        hall.machine(2, 8);
        hall.machine(2, 2);
        Due.is("accept(0, 7, true)", false, hall.accept(0, 7, true));
        Due.is("accept(0, 7, true) again", true, hall.accept(0, 7, true));
        Due.is("accept(0, 7, false)", true, hall.accept(0, 7, false));
        Due.is("accept(0, 7, false) again", false, hall.accept(0, 7, false));
        Due.is("accept(1, 0, true)", false, hall.accept(1, 0, true));
        Due.is("accepts(1)", true, hall.accepts(1));
        Due.is("accepts(0)", false, hall.accepts(0));
        Due.fails(hall, INDEX, "accept(2, 0)", () -> hall.accept(2, 0, true));
        Due.fails(hall, INDEX, "accept(-1, 0)", () -> hall.accept(-1, 0, true));
        Due.fails(hall, INDEX, "accept(0, 8)", () -> hall.accept(0, 8, true));
        Due.fails(hall, INDEX, "accept(0, -1)", () -> hall.accept(0, -1, true));
        Due.fails(hall, INDEX, "accept(1, 2)", () -> hall.accept(1, 2, true));
    }

    private static void states() {
        LearnHall hall = new LearnHall();
        Due.fails(hall, INDEX, "states(0) without machines", () -> hall.states(0));
        hall.machine(3, 8);
        hall.machine(3, 1);
        Due.is("states(0)", 8, hall.states(0));
        Due.is("states(1)", 1, hall.states(1));
        Due.fails(hall, INDEX, "states(2)", () -> hall.states(2));
        Due.fails(hall, INDEX, "states(-1)", () -> hall.states(-1));
    }

    private static void least() {
        LearnHall hall = new LearnHall();
        Due.fails(hall, INDEX, "least(0) without machines", () -> hall.least(0));
        hall.machine(3, 8);
        Due.is("least of a machine that accepts nothing", 1, hall.least(0));
        hall.accept(0, 7, true);
        Due.is("least with a state that no word leads to", 1, hall.least(0));
        Schools.add(hall, 1, "1 2 3 4 5 6 7 7", "7");
        Due.is("least of a chain", 8, hall.least(1));
        hall.lead(1, 7, 'a', 0);
        Due.is("least of a ring", 8, hall.least(1));
        hall.accept(1, 3, true);
        Due.is("least of a ring that is one of four twice", 4, hall.least(1));
        hall.accept(1, 1, true);
        hall.accept(1, 5, true);
        Due.is("least of a ring of two", 2, hall.least(1));
        Schools.add(hall, 2, "12 34 43 33 44", "12");
        Due.is("least with like states", 3, hall.least(2));
        Due.fails(hall, INDEX, "least(3)", () -> hall.least(3));
        Due.fails(hall, INDEX, "least(-1)", () -> hall.least(-1));
    }

    private static void areSame() {
        LearnHall hall = new LearnHall();
        addFour(hall);
        Due.is("areSame(0, 1)", true, hall.areSame(0, 1));
        Due.is("areSame(1, 0)", true, hall.areSame(1, 0));
        Due.is("areSame(0, 2)", false, hall.areSame(0, 2));
        Due.is("areSame(2, 1)", false, hall.areSame(2, 1));
        Due.is("areSame(3, 3)", true, hall.areSame(3, 3));
        wrongPairs("areSame", (school, one, other) -> school.areSame(one, other));
    }

    /** The first two are the same, the last one has another number of letters. */
    private static void addFour(LearnHall hall) {
        Schools.add(hall, 2, "10 10", "1");
        Schools.add(hall, 2, "12 12 10", "1");
        Schools.add(hall, 2, "12 12 10", "12");
        Schools.add(hall, 1, "1 0", "1");
    }

    private interface Pair {
        Object make(LearnHall hall, int one, int other);
    }

    private static void wrongPairs(String name, Pair pair) {
        int[][] outside = {{4, 0}, {0, 4}, {-1, 0}, {0, -1}, {4, 4}, {3, 4}, {-1, 3}};
        for (int[] w : outside) {
            wrongPair(INDEX, name, pair, w[0], w[1]);
        }
        wrongPair(ARGUMENT, name, pair, 0, 3);
        wrongPair(ARGUMENT, name, pair, 3, 2);
    }

    private static void wrongPair(Class<? extends RuntimeException> due, String name, Pair pair, int one, int other) {
        LearnHall hall = new LearnHall();
        addFour(hall);
        Due.fails(hall, due, name + "(" + one + ", " + other + ")", () -> pair.make(hall, one, other));
    }

    private static void apart() {
        LearnHall hall = new LearnHall();
        addFour(hall);
        wrongPairs("apart", (school, one, other) -> school.apart(one, other));
        Due.fails(hall, NONE, "apart(0, 1)", () -> hall.apart(0, 1));
        Due.fails(hall, NONE, "apart(3, 3)", () -> hall.apart(3, 3));
        Due.is("apart(0, 2)", 1, hall.apart(0, 2));
        hall.accept(0, 0, true);
        Due.is("apart by the empty word", 0, hall.apart(0, 2));
        Due.is("a chain", 4, Schools.add(hall, 1, "1 2 3 4 5 6 7 7", "7"));
        Due.is("a ring", 5, Schools.add(hall, 1, "1 2 3 4 5 6 0", ""));
        Due.is("apart(4, 5)", 7, hall.apart(4, 5));
        hall.accept(5, 0, true);
        hall.accept(4, 0, true);
        hall.lead(4, 7, 'a', 0);
        Due.is("apart(4, 5), rings of 8 and 7", 8, hall.apart(4, 5));
    }

    private static void apartAt() {
        LearnHall hall = new LearnHall();
        Schools.add(hall, 3, "111 222 111", "1");
        Schools.add(hall, 3, "111 220 111", "1");
        wrongAt(hall);
        Due.fails(hall, NONE, "the word of like machines", () -> hall.apartAt(0, 1, 0));
        hall.lead(1, 0, 'c', 2);
        Due.is("apart(0, 1)", 1, hall.apart(0, 1));
        Due.is("apartAt(0, 1, 0)", 'c', hall.apartAt(0, 1, 0));
        hall.lead(1, 0, 'b', 2);
        Due.is("the first one of the letters", 'b', hall.apartAt(1, 0, 0));
        LearnHall deep = new LearnHall();
        Schools.add(deep, 3, "011 222 303 333", "3");
        Schools.add(deep, 3, "011 222 300 333", "3");
        Due.is("apart", 3, deep.apart(0, 1));
        Due.is("first letter", 'b', deep.apartAt(0, 1, 0));
        Due.is("second letter", 'a', deep.apartAt(0, 1, 1));
        Due.is("third letter", 'c', deep.apartAt(0, 1, 2));
        Due.fails(deep, NONE, "a letter behind the word", () -> deep.apartAt(0, 1, 3));
        Due.fails(deep, NONE, "a letter ahead of the word", () -> deep.apartAt(0, 1, -1));
        Due.fails(deep, NONE, "a letter far away", () -> deep.apartAt(0, 1, Integer.MAX_VALUE));
        deep.accept(1, 0, true);
        Due.fails(deep, NONE, "a letter of the empty word", () -> deep.apartAt(0, 1, 0));
    }

    private static void wrongAt(LearnHall hall) {
        Due.fails(hall, INDEX, "apartAt(2, 0, 0)", () -> hall.apartAt(2, 0, 0));
        Due.fails(hall, INDEX, "apartAt(0, 2, 0)", () -> hall.apartAt(0, 2, 0));
        Due.fails(hall, INDEX, "apartAt(-1, 0, -1)", () -> hall.apartAt(-1, 0, -1));
        Due.fails(hall, INDEX, "apartAt(0, -1, -1)", () -> hall.apartAt(0, -1, -1));
        LearnHall other = new LearnHall();
        other.machine(1, 1);
        other.machine(2, 1);
        Due.fails(other, ARGUMENT, "apartAt with other letters", () -> other.apartAt(0, 1, -1));
        Due.fails(other, ARGUMENT, "apartAt with other letters", () -> other.apartAt(1, 0, 0));
    }

    private static void together() {
        LearnHall hall = new LearnHall();
        Due.fails(hall, INDEX, "together(0) without machines", () -> hall.together(0));
        hall.machine(3, 1);
        Due.is("together of one state", 0, hall.together(0));
        hall.machine(3, 2);
        Due.fails(hall, NONE, "together of two that stay", () -> hall.together(1));
        hall.lead(1, 1, 'c', 0);
        Due.is("together by c", 1, hall.together(1));
        Schools.add(hall, 2, "10 21 32 33", "");
        Due.is("together of a chain", 3, hall.together(2));
        // A ring by a, and a last state that b joins to the first one: the longest word that 8 states can need.
        Schools.add(hall, 2, "10 21 32 43 54 65 76 00", "");
        Due.is("together of a ring", 49, hall.together(3));
        Due.fails(hall, INDEX, "together(4)", () -> hall.together(4));
        Due.fails(hall, INDEX, "together(-1)", () -> hall.together(-1));
    }

    private static void words() {
        LearnHall hall = new LearnHall();
        Due.fails(hall, INDEX, "words(0, 0) without machines", () -> hall.words(0, 0));
        Due.fails(hall, INDEX, "words(0, 31) without machines", () -> hall.words(0, 31));
        hall.machine(3, 1);
        Due.is("words of none", 0L, hall.words(0, 30));
        hall.accept(0, 0, true);
        Due.is("words(0, 0)", 1L, hall.words(0, 0));
        Due.is("words(0, 1)", 3L, hall.words(0, 1));
        Due.is("words(0, 30)", 205891132094649L, hall.words(0, 30));
        Schools.add(hall, 2, "10 20 22", "01");
        Due.is("words without aa of length 30", 2178309L, hall.words(1, 30));
        Due.is("words without aa of length 5", 13L, hall.words(1, 5));
        Due.fails(hall, ARGUMENT, "words(0, 31)", () -> hall.words(0, 31));
        Due.fails(hall, ARGUMENT, "words(0, -1)", () -> hall.words(0, -1));
        Due.fails(hall, INDEX, "words(2, 0)", () -> hall.words(2, 0));
        Due.fails(hall, INDEX, "words(-1, 31)", () -> hall.words(-1, 31));
    }
}
