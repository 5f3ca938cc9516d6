/** Promises 27 and 28. */
public final class ExamplesTest {
    private static final Class<IllegalArgumentException> ARGUMENT = IllegalArgumentException.class;
    private static final Class<UnsupportedOperationException> OTHERWISE = UnsupportedOperationException.class;

    public static void main(String[] args) {
        example();
        exampleIsFull();
        merge();
        mergeWithoutExamples();
        mergeTriesFirstOnesFirst();
        mergeTriesShortWordsFirst();
        mergeJoinsWhatIsBehind();
        mergeIsUndone();
        mergeTakesTheFirstWord();
        mergeLeadsToItself();
        mergeOfWrongLetters();
        mergeOfTooManyStates();
        mergeWithoutRoom();
        mergeOfTheGreatestTree();
        Due.end();
    }

    private static void example() {
        LearnHall hall = new LearnHall();
        Due.is("example of the empty word", 1, hall.example(false));
        Due.is("the same again", 1, hall.example(false));
        Due.fails(hall, OTHERWISE, "the empty word otherwise", () -> hall.example(true));
        hall.type('a');
        Due.is("example of a", 2, hall.example(true));
        Due.fails(hall, OTHERWISE, "a otherwise", () -> hall.example(false));
        Due.is("a again", 2, hall.example(true));
        hall.type('a');
        Due.is("example of aa", 3, hall.example(false));
        Schools.type(hall, "ba");
        Due.is("example of ba", 4, hall.example(true));
        Schools.type(hall, "cccccccccccc");
        Due.is("example of twelve c", 5, hall.example(true));
        hall.clear();
        Due.is("the empty word again", 5, hall.example(false));
    }

    private static void exampleIsFull() {
        LearnHall hall = new LearnHall();
        String letters = "abc";
        for (int i = 0; i < 24; i++) {
            Schools.type(hall, "" + letters.charAt(i % 3) + letters.charAt(i / 3 % 3) + letters.charAt(i / 9));
            Due.is("example " + i, i + 1, hall.example(i % 2 == 0));
        }
        Due.is("the last one again", 24, hall.example(false));
        Due.fails(hall, OTHERWISE, "the last one otherwise", () -> hall.example(true));
        hall.clear();
        Due.fails(hall, IllegalStateException.class, "a 25th example", () -> hall.example(true));
        Due.fails(hall, IllegalStateException.class, "a 25th example", () -> hall.example(false));
        Schools.type(hall, "aaa");
        Due.is("the first one again", 24, hall.example(true));
        Due.fails(hall, OTHERWISE, "the first one otherwise", () -> hall.example(false));
    }

    private static void merge() {
        LearnHall hall = new LearnHall();
        Schools.example(hall, "", false);
        Schools.example(hall, "a", true);
        Schools.example(hall, "aa", false);
        Schools.example(hall, "aaa", true);
        Due.is("merge(1)", 0, hall.merge(1));
        Due.is("states(0)", 2, hall.states(0));
        Due.is("words(0, 29)", 1L, hall.words(0, 29));
        Due.is("words(0, 30)", 0L, hall.words(0, 30));
        Due.is("merge(1) again", 1, hall.merge(1));
        Due.is("areSame(0, 1)", true, hall.areSame(0, 1));
        Due.is("example stays", 4, hall.example(true));
        hall.lead(0, 1, 'a', 1);
        hall.accept(0, 0, true);
        Due.is("a merged machine changes by itself", false, hall.areSame(0, 1));
    }

    private static void mergeWithoutExamples() {
        for (int letters = 1; letters <= 3; letters++) {
            LearnHall hall = new LearnHall();
            Due.is("merge without examples", 0, hall.merge(letters));
            Due.is("states", 1, hall.states(0));
            Due.is("accepts", false, hall.accepts(0));
            for (int l = 0; l < letters; l++) {
                Due.is("lead", 0, hall.lead(0, 0, (char) ('a' + l), 0));
            }
            int beyond = letters;
            Due.fails(hall, ARGUMENT, "lead", () -> hall.lead(0, 0, (char) ('a' + beyond), 0));
        }
    }

    /** The states behind the red ones are tried in the order of their words, with the red ones in that order. */
    private static void mergeTriesFirstOnesFirst() {
        LearnHall hall = new LearnHall();
        Schools.example(hall, "", false);
        Schools.example(hall, "a", true);
        Schools.example(hall, "b", true);
        Schools.example(hall, "ab", false);
        Schools.example(hall, "bc", true);
        Due.is("merge(3)", 0, hall.merge(3));
        Due.is("states", 2, hall.states(0));
        // b is joined with a; then ab with the empty word, and bc, which is ac, can only be joined with a.
        Due.is("a from 0", 1, hall.lead(0, 0, 'a', 0));
        Due.is("b from 0", 1, hall.lead(0, 0, 'b', 0));
        Due.is("b from a", 0, hall.lead(0, 1, 'b', 0));
        Due.is("c from a", 1, hall.lead(0, 1, 'c', 0));
    }

    /** A state is called by its first word: c is tried ahead of ba, to which a leads once b is joined. */
    private static void mergeTriesShortWordsFirst() {
        LearnHall hall = new LearnHall();
        Schools.example(hall, "c", false);
        Schools.example(hall, "ba", true);
        Due.is("merge(3)", 0, hall.merge(3));
        Due.is("states", 2, hall.states(0));
        for (char c = 'a'; c <= 'c'; c++) {
            Due.is("lead from 0 by " + c, c == 'a' ? 1 : 0, hall.lead(0, 0, c, 0));
            Due.is("lead from 1 by " + c, 1, hall.lead(0, 1, c, 0));
        }
        Due.is("accept of 0", false, hall.accept(0, 0, false));
        Due.is("accept of 1", true, hall.accept(0, 1, false));
    }

    private static void mergeJoinsWhatIsBehind() {
        LearnHall hall = new LearnHall();
        Schools.example(hall, "aaa", true);
        Schools.example(hall, "b", true);
        Schools.example(hall, "ab", false);
        // a is not joined with the empty word, as b and ab would be; b is, then aa is, and aaa with a; ab is red.
        Due.is("merge(2)", 0, hall.merge(2));
        Due.is("states", 3, hall.states(0));
        int[][] leads = {{1, 0}, {0, 2}, {2, 2}};
        for (int s = 0; s < 3; s++) {
            Due.is("a from " + s, leads[s][0], hall.lead(0, s, 'a', 0));
            Due.is("b from " + s, leads[s][1], hall.lead(0, s, 'b', 0));
            Due.is("accept of " + s, s < 2, hall.accept(0, s, false));
        }
    }

    /** What was joined by a try that failed must not stay. */
    private static void mergeIsUndone() {
        LearnHall hall = new LearnHall();
        Schools.example(hall, "aaaa", true);
        Schools.example(hall, "aaaaaa", false);
        Schools.example(hall, "a", false);
        Due.is("merge(1)", 0, hall.merge(1));
        Due.is("accepts", true, Schools.takes(hall, 0, "aaaa"));
        Due.is("accepts", false, Schools.takes(hall, 0, "aaaaaa"));
        Due.is("accepts", false, Schools.takes(hall, 0, "a"));
        Due.is("states", 4, hall.states(0));
    }

    /** The states of the new machine are in the order of their words: the empty one, a, b. */
    private static void mergeTakesTheFirstWord() {
        LearnHall hall = new LearnHall();
        Schools.example(hall, "", true);
        Schools.example(hall, "a", false);
        Schools.example(hall, "ac", false);
        Schools.example(hall, "bc", true);
        Schools.example(hall, "b", false);
        Schools.example(hall, "aac", false);
        Schools.example(hall, "aa", true);
        Due.is("merge(3)", 0, hall.merge(3));
        // aa is joined with the empty word, ac with a, bc with the empty word, and aac, which is c, with a.
        Due.is("states", 3, hall.states(0));
        Schools.type(hall, "a");
        Due.is("run by a", 1, hall.run(0));
        Schools.type(hall, "b");
        Due.is("run by b", 2, hall.run(0));
        int[][] leads = {{1, 2, 1}, {0, 1, 1}, {2, 2, 0}};
        for (int s = 0; s < 3; s++) {
            for (int l = 0; l < 3; l++) {
                Due.is("lead " + l + " from " + s, leads[s][l], hall.lead(0, s, (char) ('a' + l), 0));
            }
        }
    }

    private static void mergeLeadsToItself() {
        LearnHall hall = new LearnHall();
        Schools.example(hall, "", false);
        Schools.example(hall, "b", true);
        Due.is("merge(3)", 0, hall.merge(3));
        Due.is("states", 2, hall.states(0));
        for (char c = 'a'; c <= 'c'; c++) {
            Due.is("lead from 0 by " + c, c == 'b' ? 1 : 0, hall.lead(0, 0, c, 0));
            Due.is("lead from 1 by " + c, 1, hall.lead(0, 1, c, 1));
        }
        Due.is("accepts of state 1", true, hall.accept(0, 1, true));
    }

    private static void mergeOfWrongLetters() {
        LearnHall hall = new LearnHall();
        for (int letters : new int[] {0, 4, -1, Integer.MIN_VALUE, Integer.MAX_VALUE}) {
            Due.fails(hall, ARGUMENT, "merge(" + letters + ")", () -> hall.merge(letters));
        }
        Schools.example(hall, "baaaaaaaaaaa", true);
        Due.fails(hall, ARGUMENT, "merge(1) of b", () -> hall.merge(1));
        Due.is("merge(2) of b", 0, hall.merge(2));
        Schools.example(hall, "aaaaaaaaaaac", false);
        Due.fails(hall, ARGUMENT, "merge(2) of c", () -> hall.merge(2));
        Due.fails(hall, ARGUMENT, "merge(1) of c", () -> hall.merge(1));
        Due.is("merge(3) of c", 1, hall.merge(3));
    }

    /** Words of a that are refused up to the one that is accepted keep all states apart. */
    private static void mergeOfTooManyStates() {
        LearnHall hall = new LearnHall();
        for (int length = 0; length < 7; length++) {
            Schools.example(hall, "aaaaaaaa".substring(0, length), false);
        }
        Schools.example(hall, "aaaaaaa", true);
        Due.is("merge(1) of 8 states", 0, hall.merge(1));
        Due.is("states", 8, hall.states(0));
        LearnHall more = new LearnHall();
        for (int length = 0; length < 8; length++) {
            Schools.example(more, "aaaaaaaa".substring(0, length), false);
        }
        Schools.example(more, "aaaaaaaa", true);
        Due.fails(more, ArithmeticException.class, "merge(1) of 9 states", () -> more.merge(1));
        Schools.example(more, "b", true);
        Due.fails(more, ARGUMENT, "merge(1) of 9 states and b", () -> more.merge(1));
        for (int i = 0; i < 6; i++) {
            more.machine(1, 1);
        }
        Due.fails(more, ArithmeticException.class, "merge(2) of 9 states without room", () -> more.merge(2));
    }

    /** 24 words of 12 letters that part at their third letter at the latest: a tree of 253 states. */
    private static void mergeOfTheGreatestTree() {
        for (int rule = 2; rule <= 4; rule++) {
            LearnHall hall = new LearnHall();
            ReferenceHall reference = new ReferenceHall();
            for (int i = 0; i < 24; i++) {
                hall.clear();
                reference.clear();
                int sum = 0;
                for (int k = 0; k < 12; k++) {
                    int letter = (k == 0 ? i / 9 : k == 1 ? i / 3 : k == 2 ? i : i * k + k * k / 5) % 3;
                    sum += letter;
                    hall.type((char) ('a' + letter));
                    reference.type((char) ('a' + letter));
                }
                Due.is("example", i + 1, hall.example(sum % rule == 0));
                reference.example(sum % rule == 0);
            }
            Due.is("merge(3)", Due.answerOf(() -> reference.merge(3)), Due.answerOf(() -> hall.merge(3)));
            Due.is("states(0)", reference.states(0), hall.states(0));
            for (int s = 0; s < reference.states(0); s++) {
                for (char c = 'a'; c <= 'c'; c++) {
                    Due.is("lead from " + s + " by " + c, reference.lead(0, s, c, 0), hall.lead(0, s, c, 0));
                }
                Due.is("accept of " + s, reference.accept(0, s, false), hall.accept(0, s, false));
            }
        }
    }

    private static void mergeWithoutRoom() {
        LearnHall hall = new LearnHall();
        for (int i = 0; i < 6; i++) {
            Due.is("merge(1)", i, hall.merge(1));
        }
        Due.fails(hall, IllegalStateException.class, "a 7th machine", () -> hall.merge(1));
        Due.fails(hall, ARGUMENT, "merge(0) of a 7th machine", () -> hall.merge(0));
    }
}
