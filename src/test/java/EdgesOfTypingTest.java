/** Promises 12 to 15, and 'Typing' in 'Terms': a run for each sentence that names an edge. */
public final class EdgesOfTypingTest {
    private static final String INDEX = "IndexOutOfBoundsException";
    private static final String ARGUMENT = "IllegalArgumentException";
    private static final String STATE = "IllegalStateException";

    public static void main(String[] args) {
        type();
        typeIsNoLetter();
        typeIsFull();
        clear();
        theWordStays();
        run();
        wordWithAnotherLetter();
        accepts();
        twoExceptions();
        Due.end();
    }

    private static void type() {
        Script.of("12: a, b and c are letters").due("type(a)", 1).due("type(b)", 2).due("type(c)", 3).end();
        Script.of("12: letters are typed without machines that have them").does("machine(1, 1)")
                .due("type(c)", 1).due("type(b)", 2).end();
        Script.of("12: a letter is typed behind the word").machine(2, "12 13 33 33", "3").due("type(a)", 1)
                .due("run(0)", 1).due("type(b)", 2).due("run(0)", 3).end();
        Script.of("12: returns the length of the word, up to 12").due("type(b)", "1 2 3 4 5 6 7 8 9 10 11 12").end();
    }

    private static void typeIsNoLetter() {
        for (String letter : new String[] {"`", "d", "A", "B", "C", "#0", "#32", "#255", "#353", "#65535"}) {
            Script.of("12: throws if there is no such letter").machine(3, "111 000", "1").does("type(a)")
                    .refused("type(" + letter + ")", ARGUMENT).due("type(a)", 2).end();
            Script.of("12: throws if there is no such letter, in a new school")
                    .refused("type(" + letter + ")", ARGUMENT).due("type(a)", 1).end();
        }
    }

    private static void typeIsFull() {
        for (String letter : new String[] {"a", "b", "c"}) {
            Script.of("12: throws if it has 12 letters").machine(3, "111 222 000", "1").word("abcabcabcabc")
                    .due("run(0)", 0).refused("type(" + letter + ")", STATE).due("clear()", 12)
                    .due("type(" + letter + ")", 1).end();
        }
        Script.of("12: the 12th letter is typed").machine(3, "111 222 000", "0").word("abcabcabcab")
                .due("accepts(0)", false).due("type(c)", 12).due("accepts(0)", true).end();
    }

    private static void clear() {
        Script.of("13: the word is empty at first").due("clear()", "0 0").end();
        Script.of("13: returns its length before").does("type(c)").due("clear()", "1 0").word("abcabcabcabc")
                .due("clear()", "12 0").end();
        Script.of("13: empties the word").machine(1, "1 1", "0").does("type(a)").due("run(0)", 1).due("clear()", 1)
                .due("run(0)", 0).due("accepts(0)", true).due("type(a)", 1).end();
    }

    private static void theWordStays() {
        Script.of("Typing: the word stays until it is cleared").machine(2, "10 01", "1").word("aab")
                .due("run(0)", "0 0").due("accepts(0)", "false false").does("example(true)").due("example(true)", 1)
                .does("merge(2); learner(0, true); step(0); check(0); step(0); believes(0); isSound(); meanAsked()")
                .does("lead(0, 0, b, 1); machine(3, 3); least(0); together(0); words(0, 3)")
                .due("clear()", 3).end();
    }

    private static void run() {
        Script.of("14: the empty word leads to the state 0").machine(3, "111 111", "").due("run(0)", 0).end();
        Script.of("14: a word of 12 letters leads from the state 0").machine(1, "1 2 3 4 5 6 7 0", "")
                .word("aaaaaaaaaaaa").due("run(0)", 4).end();
        Script.of("14: letters lead as they do now").machine(1, "0 1", "").word("aa").due("run(0)", 0)
                .does("lead(0, 0, a, 1)").due("run(0)", 1).end();
        Script.of("14: the word leads to a state of each machine").machine(1, "1 0", "").machine(3, "022 111 210", "")
                .word("a").due("run(0)", 1).due("run(1)", 0).end();
    }

    /** The letter may stand anywhere in the word, and it does not matter where the letters ahead of it lead. */
    private static void wordWithAnotherLetter() {
        String[][] words = {{"1", "b"}, {"1", "c"}, {"1", "baaaaaaaaaaa"}, {"1", "aaaaaaaaaaab"}, {"1", "aabaa"},
            {"2", "c"}, {"2", "caaaaaaaaaaa"}, {"2", "abababababac"}, {"2", "abcab"}};
        for (String[] word : words) {
            Script.of("14: throws if the word has a letter that the machine has not, " + word[1])
                    .does("machine(" + word[0] + ", 3)").word(word[1]).refused("run(0)", ARGUMENT).end();
            Script.of("15: throws if the word has a letter that the machine has not, " + word[1])
                    .does("machine(" + word[0] + ", 3)").word(word[1]).refused("accepts(0)", ARGUMENT).end();
        }
        Script.of("14: the last letter of a machine is one that it has").does("machine(1, 1); machine(2, 1)")
                .does("machine(3, 1)").word("a").due("run(0)", 0).word("ab").due("run(1)", 0).word("abc")
                .due("run(2)", 0).due("accepts(2)", false).end();
    }

    private static void accepts() {
        Script.of("15: the empty word is accepted if the state 0 is").does("machine(2, 2)").due("accepts(0)", false)
                .due("accept(0, 1, true)", false).due("accepts(0)", false).due("accept(0, 0, true)", false)
                .due("accepts(0)", true).end();
        Script.of("15: the state to which the word leads accepts, or not").machine(2, "10 01", "1").word("aba")
                .due("accepts(0)", false).word("ab").due("accepts(0)", true).does("accept(0, 1, false)")
                .due("accepts(0)", false).end();
    }

    private static void twoExceptions() {
        Script.of("12: 12 letters, and no such letter").machine(3, "111 222 000", "1").word("abcabcabcabc")
                .refused("type(d)", ARGUMENT).refused("type(#0)", ARGUMENT).end();
        Script.of("14: no such machine, and another letter").does("machine(2, 2)").word("c")
                .refused("run(1)", INDEX).refused("run(-1)", INDEX).end();
        Script.of("15: no such machine, and another letter").does("machine(2, 2)").word("c")
                .refused("accepts(1)", INDEX).refused("accepts(-1)", INDEX).end();
    }
}
