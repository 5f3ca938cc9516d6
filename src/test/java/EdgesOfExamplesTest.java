/** Promises 27 and 28, and 'Examples' in 'Terms': a run for each sentence that names an edge. */
public final class EdgesOfExamplesTest {
    private static final String ARGUMENT = "IllegalArgumentException";
    private static final String STATE = "IllegalStateException";
    private static final String OTHERWISE = "UnsupportedOperationException";
    private static final String DIVISION = "ArithmeticException";

    /** 24 words; the last one is aca, which is accepted. */
    private static final String FULL = "+ a+ b- c- aa+ ab- ac+ ba- bb+ bc- ca+ cb- cc+ "
            + "aaa+ aab- aac- bab+ bac- bba+ bbb- cab- cac+ ccc- aca+";

    /** The words of a up to a length, of which the last one alone is accepted: all of them are states. */
    private static String chain(int length) {
        StringBuilder words = new StringBuilder();
        for (int i = 0; i < length; i++) {
            words.append("a".repeat(i)).append("- ");
        }
        return words + "a".repeat(length) + "+";
    }

    public static void main(String[] args) {
        example();
        exampleOtherwise();
        exampleIsFull();
        mergeLetters();
        mergeOfAnotherLetter();
        mergeOfFewExamples();
        mergeKeeps();
        mergeJoins();
        mergeUndoes();
        mergeOrders();
        mergeLeadsToItself();
        mergeAccepts();
        mergeHasTooManyStates();
        mergeIsFull();
        Due.end();
    }

    private static void example() {
        Script.of("27: the empty word is one").due("example(true)", "1 1").end();
        Script.of("27: a word of 12 letters is one").word("abcabcabcabc").due("example(false)", "1 1")
                .due("clear()", 12).due("example(false)", 2).end();
        Script.of("27: returns how many examples there are").word("a").due("example(true)", 1).word("b")
                .due("example(false)", 2).word("aa").due("example(false)", "3 3").word("a").due("example(true)", 3)
                .end();
        Script.of("27: words with the same letters are other ones").examples("ab+ ba- aab+ aba- baa+").word("abb")
                .due("example(false)", 6).end();
        Script.of("27: the word is kept as it is now").does("example(true); type(a)").due("example(false)", 2)
                .does("clear()").refused("example(false)", OTHERWISE).due("example(true)", 2).end();
    }

    private static void exampleOtherwise() {
        for (String word : new String[] {"", "a", "c", "ab", "cccccccccccc"}) {
            Script.of("27: throws if it is one that is said to be otherwise, not accepted")
                    .examples("ba- " + word + "-").refused("example(true)", OTHERWISE).due("example(false)", 2).end();
            Script.of("27: throws if it is one that is said to be otherwise, accepted")
                    .examples("ba- " + word + "+").refused("example(false)", OTHERWISE).due("example(true)", 2).end();
        }
    }

    private static void exampleIsFull() {
        Script.of("27: there are 24 examples at most").examples(FULL).due("example(true)", 24).end();
        Script.of("27: throws if it is a new one, and there are 24").examples(FULL).word("bca")
                .refused("example(true)", STATE).refused("example(false)", STATE).end();
        Script.of("27: throws if it is a new word of 12 letters, and there are 24").examples(FULL).word("aaaaaaaaaaaa")
                .refused("example(true)", STATE).end();
        Script.of("27: one that is not new is kept, and there are 24").examples(FULL).due("example(true)", 24)
                .word("cb").due("example(false)", 24).word("").due("example(true)", 24).end();
        Script.of("27: one that is said to be otherwise, and there are 24").examples(FULL)
                .refused("example(false)", OTHERWISE).word("").refused("example(false)", OTHERWISE).word("cb")
                .refused("example(true)", OTHERWISE).end();
        Script.of("27: the 24th example is one in a merge").examples(FULL.replace(" aca+", "")).word("aca")
                .due("example(true)", 24).refused("merge(2)", ARGUMENT).end();
    }

    private static void mergeLetters() {
        for (int letters = 1; letters <= 3; letters++) {
            Script.of("28: the number of its letters, 1 to 3").due("merge(" + letters + ")", 0)
                    .leads(0, "000".substring(0, letters), "")
                    .refused("lead(0, 0, " + (char) ('a' + letters) + ", 0)", ARGUMENT).end();
        }
        for (String letters : new String[] {"0", "4", "-1", "2147483647", "-2147483648"}) {
            Script.of("28: throws if the number is out of range").refused("merge(" + letters + ")", ARGUMENT).end();
            Script.of("28: throws if the number is out of range, with examples").examples("- a+ bc-")
                    .refused("merge(" + letters + ")", ARGUMENT).due("merge(3)", 0).end();
        }
    }

    private static void mergeOfAnotherLetter() {
        String[][] words = {{"1", "b"}, {"1", "c"}, {"1", "baaaaaaaaaaa"}, {"1", "aaaaaaaaaaab"}, {"1", "aaca"},
            {"2", "c"}, {"2", "cbbbbbbbbbbb"}, {"2", "ababababaabc"}, {"2", "bca"}};
        for (String[] word : words) {
            for (char sign : "+-".toCharArray()) {
                Script.of("28: throws if an example has another letter, " + word[1]).examples("a+ " + word[1] + sign)
                        .refused("merge(" + word[0] + ")", ARGUMENT).end();
                Script.of("28: throws if the first example has another letter").examples(word[1] + sign + " a+")
                        .refused("merge(" + word[0] + ")", ARGUMENT).end();
            }
        }
        Script.of("28: the last letter is one that it has").examples("a+").due("merge(1)", 0).examples("ab-")
                .due("merge(2)", 1).examples("abc+").due("merge(3)", 2).end();
        Script.of("28: the word that is typed does not matter").examples("a+").word("bc").due("merge(1)", 0).end();
    }

    private static void mergeOfFewExamples() {
        Script.of("28: without examples, the empty word is the only state").due("merge(3)", 0)
                .leads(0, "000", "").end();
        Script.of("28: the empty word is accepted").examples("+").due("merge(2)", 0).leads(0, "00", "0").end();
        Script.of("28: the empty word is not accepted").examples("-").due("merge(2)", 0).leads(0, "00", "").end();
        Script.of("28: all are accepted").examples("aab+ ba+ cccccccccccc+").due("merge(3)", 0).leads(0, "000", "0")
                .end();
        Script.of("28: none is accepted").examples("aab- ba- cccccccccccc-").due("merge(3)", 0).leads(0, "000", "")
                .end();
        Script.of("28: a word of 12 letters").examples("- aaaaaaaaaaaa+").due("merge(1)", 0).leads(0, "1 1", "1").end();
    }

    private static void mergeKeeps() {
        Script.of("28: the examples stay").examples("- a+").due("merge(1)", "0 1").due("areSame(0, 1)", true)
                .due("example(true)", 2).refused("example(false)", OTHERWISE).end();
        Script.of("28: a new machine changes by itself").examples("- a+").due("merge(1)", "0 1")
                .does("lead(0, 0, a, 0); accept(0, 0, true)").leads(1, "1 1", "1").due("merge(1)", 2)
                .leads(2, "1 1", "1").end();
        Script.of("28: returns its number").does("machine(3, 2)").due("merge(1)", 1).does("machine(3, 2)")
                .due("merge(1)", 3).end();
    }

    private static void mergeJoins() {
        Script.of("28: what a same letter leads to is joined, too, and so on").examples("aa+").due("merge(1)", 0)
                .leads(0, "0", "0").end();
        Script.of("28: red ones are tried, first ones first").examples("- aaa+").due("merge(1)", 0)
                .leads(0, "1 0", "1").end();
        Script.of("28: no other red one is tried").examples("- a+ aba+").due("merge(2)", 0)
                .leads(0, "10 10", "1").end();
        Script.of("28: the second red one, if the first one can't be joined").examples("- a+ ab+").due("merge(2)", 0)
                .leads(0, "10 11", "1").end();
        Script.of("28: if it cannot be joined with any, it is red").examples("- a+ aa- ab- aba-").due("merge(2)", 0)
                .leads(0, "10 02 02", "1").end();
    }

    private static void mergeUndoes() {
        Script.of("28: undone if a state that accepts would be joined with one that does not").examples("a- +")
                .due("merge(1)", 0).leads(0, "1 1", "0").end();
        Script.of("28: undone if that would be so further on").examples("- aa+").due("merge(1)", 0)
                .leads(0, "1 1", "1").end();
        Script.of("28: what is undone is as it was").examples("- bb+").due("merge(2)", 0).leads(0, "01 11", "1").end();
        Script.of("28: it stays if nothing is said of one of them").examples("aa- aaaa-").due("merge(1)", 0)
                .leads(0, "0", "").end();
    }

    private static void mergeOrders() {
        Script.of("28: of two to which letters lead, a is tried ahead of b").examples("a- b+").due("merge(2)", 0)
                .leads(0, "01 11", "1").end();
        Script.of("28: examples are in the order of their words").examples("b+ a-").due("merge(2)", 0)
                .leads(0, "01 11", "1").end();
        Script.of("28: joined states are called by their first word: c is tried ahead of ba").examples("ba+ c-")
                .due("merge(3)", 0).leads(0, "100 111", "1").end();
        Script.of("28: red states are in the order of their words").examples("aab- aaa- bb+ aa- b- a+ -")
                .due("merge(2)", 0).leads(0, "12 31 21 00", "1").end();
    }

    private static void mergeLeadsToItself() {
        Script.of("28: to itself, if it leads nowhere").examples("- b+").due("merge(3)", 0)
                .leads(0, "010 111", "1").end();
        Script.of("28: a letter that no example has").examples("- a+ aa-").due("merge(3)", 0).leads(0, "100 011", "1")
                .end();
    }

    private static void mergeAccepts() {
        Script.of("28: a state accepts if an example that is joined in it does").examples("- aaa+ aaaaa+")
                .due("merge(1)", 0).leads(0, "1 0", "1").end();
        Script.of("28: a state without an example does not accept").examples("b- ab+ aab-").due("merge(2)", 0)
                .leads(0, "10 01", "1").end();
    }

    private static void mergeHasTooManyStates() {
        Script.of("28: 8 states").examples(chain(7)).due("merge(1)", 0).leads(0, "1 2 3 4 5 6 7 7", "7").end();
        for (int length = 8; length <= 12; length += 4) {
            Script.of("28: throws if it would have more than 8 states, " + (length + 1)).examples(chain(length))
                    .refused("merge(1)", DIVISION).refused("merge(3)", DIVISION).end();
        }
        Script.of("28: more than 8 states, and another letter").examples(chain(8) + " b+")
                .refused("merge(1)", ARGUMENT).refused("merge(2)", DIVISION).end();
        Script.of("28: more than 8 states, and a number out of range").examples(chain(8))
                .refused("merge(0)", ARGUMENT).refused("merge(4)", ARGUMENT).end();
        Script.of("28: more than 8 states, and 6 machines").examples(chain(8)).due("machine(1, 1)", "0 1 2 3 4 5")
                .refused("merge(1)", DIVISION).end();
    }

    private static void mergeIsFull() {
        Script.of("28: the 6th machine").due("machine(1, 1)", "0 1 2 3 4").due("merge(1)", 5).end();
        Script.of("28: throws if there are 6 machines").examples("- a+").due("machine(1, 1)", "0 1 2 3 4 5")
                .refused("merge(1)", STATE).refused("merge(3)", STATE).end();
        Script.of("28: 6 machines, all of them merged").due("merge(2)", "0 1 2 3 4 5").refused("merge(2)", STATE).end();
        Script.of("28: 6 machines, and 8 states").examples(chain(7)).due("machine(1, 1)", "0 1 2 3 4 5")
                .refused("merge(1)", STATE).end();
        Script.of("28: 6 machines, and a number out of range, or another letter").examples("- b+")
                .due("machine(1, 1)", "0 1 2 3 4 5").refused("merge(0)", ARGUMENT).refused("merge(4)", ARGUMENT)
                .refused("merge(1)", ARGUMENT).end();
    }
}
