/** Promises 16 to 26, and 'Learners' in 'Terms': a run for each sentence that names an edge. */
public final class EdgesOfLearnersTest {
    private static final String INDEX = "IndexOutOfBoundsException";
    private static final String ARGUMENT = "IllegalArgumentException";
    private static final String STATE = "IllegalStateException";
    private static final String NONE = "NoSuchElementException";

    private static final String CHAIN = "1 2 3 4 5 6 7 7";
    /** A ring of three by a, in which the last state accepts; b stays. */
    private static final String RING = "10 21 02";

    public static void main(String[] args) {
        learner();
        learnerIsNew();
        learnerIsFull();
        noSuchLearner();
        stepAddsRows();
        stepKeepsAnswers();
        stepCompares();
        stepOfOneThatIsDone();
        stepWithoutHalving();
        stepWithHalving();
        stepWithHalvingOfShortWords();
        stepWithTheEmptyWord();
        stepWithManyRows();
        stepWithManyColumns();
        check();
        checkAsks();
        checkDropsRows();
        rowsAndColumns();
        asked();
        compared();
        isDone();
        believes();
        twoExceptions();
        Due.end();
    }

    private static void learner() {
        Script.of("16: returns its number, from 0, up to 4 learners").does("machine(2, 2)")
                .due("learner(0, true)", "0 1 2 3").end();
        Script.of("16: a learner for the last one of 6 machines").does("machine(1, 1)").does("machine(1, 1)")
                .does("machine(1, 1); machine(1, 1); machine(1, 1); machine(3, 1)").due("learner(5, false)", 0)
                .due("step(0)", "d").due("asked(0)", 4).end();
        Script.of("16: a learner for a merged machine").examples("- a+").due("merge(1)", 0)
                .due("learner(0, false)", 0).due("step(0)", "c d").end();
        Script.of("16: learners for one machine are by themselves").machine(2, RING, "2")
                .does("learner(0, true); learner(0, false); learner(0, false)").due("step(1)", "e c c d")
                .due("asked(0)", 0).due("rows(0)", 1).due("isDone(2)", false).due("columns(2)", 1)
                .due("step(2)", "e c c d").due("asked(2)", 15).due("asked(1)", 15).end();
    }

    private static void learnerIsNew() {
        Script.of("16: the empty word is the only row and the only column").does("machine(3, 8); learner(0, true)")
                .table(0, "0", "0").refused("row(0, 1)", INDEX).refused("column(0, 1)", INDEX).end();
        Script.of("16: it asked nothing, made no machine and is not done").does("machine(3, 8); learner(0, false)")
                .due("asked(0)", 0).due("compared(0)", 0).due("isDone(0)", false).refused("believes(0)", NONE).end();
    }

    private static void learnerIsFull() {
        Script.of("16: throws if there are 4 learners").does("machine(2, 2); machine(2, 2)")
                .due("learner(0, true)", "0 1").due("learner(1, false)", "2 3").refused("learner(0, true)", STATE)
                .refused("learner(1, false)", STATE).end();
        Script.of("16: throws if there are 4 learners that are done").does("machine(1, 1)")
                .due("learner(0, true)", "0 1 2 3").does("step(0); step(1); step(2); step(3)")
                .refused("learner(0, true)", STATE).end();
    }

    /** All calls that name a learner: N stands for the number that is none. */
    private static void noSuchLearner() {
        String[] calls = {"17: step(N)", "18: check(N)", "19: rows(N)", "20: columns(N)", "21: row(N, 0)",
            "22: column(N, 0)", "23: asked(N)", "24: compared(N)", "25: isDone(N)", "26: believes(N)"};
        for (String call : calls) {
            String sentence = call.replace("(", ": throws if there is no such learner (");
            String name = call.substring(call.indexOf(' ') + 1);
            Script.of(sentence + ", a new object").refused(name.replace("N", "0"), INDEX)
                    .refused(name.replace("N", "-1"), INDEX).end();
            for (int learners = 0; learners <= 4; learners += learners == 1 ? 3 : 1) {
                String[] none = {Integer.toString(learners), "-1", "2147483647", "-2147483648"};
                for (String number : none) {
                    Script script = Script.of(sentence + ", " + learners + " learners").machine(2, RING, "2");
                    for (int i = 0; i < learners; i++) {
                        script.does("learner(0, true); step(" + i + ")");
                    }
                    script.refused(name.replace("N", number), INDEX).end();
                }
            }
        }
        Script.of("17: the last one of 4 learners").machine(2, "10 10", "1").due("learner(0, true)", "0 1 2 3")
                .due("step(3)", "c d").due("check(3)", 0).table(3, "0 1", "0").due("asked(3)", 10)
                .due("compared(3)", 1).due("isDone(3)", false).due("believes(3)", false).end();
    }

    private static void stepAddsRows() {
        for (int letters = 1; letters <= 3; letters++) {
            Script.of("17: it asks for the empty word and for each letter").does("machine(" + letters + ", 8)")
                    .does("learner(0, true)").due("step(0)", "d").due("asked(0)", letters + 1).table(0, "0", "0").end();
            Script.of("17: the last letter, too").does("machine(" + letters + ", 2); learner(0, true)")
                    .does("accept(0, 1, true); lead(0, 0, " + (char) ('a' + letters - 1) + ", 1)").due("step(0)", "c d")
                    .due("asked(0)", 2 * letters + 1).table(0, "0 1", "0").end();
        }
        // The row b is asked with all letters, c is not: of the words that are kept, c alone begins with c.
        Script.of("17: the first one, by letters, becomes a row").machine(3, "012 111 222", "12")
                .does("learner(0, true)").due("step(0)", "c d").due("asked(0)", 7).does("accept(0, 2, false)")
                .due("check(0)", 1).does("accept(0, 1, false)").due("check(0)", 4).end();
        // Behind the e, neither c nor ba is as a row, nor is bb in the other machine.
        Script.of("17: the first one, by rows, then by letters: c is ahead of ba").machine(3, "021 111 122", "2")
                .does("learner(0, true)").due("step(0)", "c e").table(0, "0 1", "0 1").due("step(0)", "c")
                .table(0, "0 1 1", "0 1").due("asked(0)", 12).due("step(0)", "d").due("asked(0)", 17).end();
        Script.of("17: the first one, by rows, becomes the last row: a is ahead of bb").machine(2, "21 12 22", "1")
                .does("learner(0, true)").due("step(0)", "c e").table(0, "0 1", "0 1").due("step(0)", "c")
                .table(0, "0 1 1", "0 1").due("asked(0)", 8).end();
        Script.of("17: its answers are those of no row, not of the row that it is behind").machine(1, "1 0", "1")
                .does("learner(0, true)").due("step(0)", "c d").due("rows(0)", 2).due("asked(0)", 3).end();
    }

    private static void stepKeepsAnswers() {
        Script.of("17: it asks only for words that it does not keep").machine(1, CHAIN, "7")
                .does("learner(0, false)").due("step(0)", "e").due("asked(0)", 2).due("step(0)", "c")
                .due("asked(0)", 9).due("step(0)", "c").due("asked(0)", 10).due("step(0)", "c").due("asked(0)", 11)
                .end();
        Script.of("17: what it has asked, it keeps, as the machine was then").machine(1, "1 1", "1")
                .does("learner(0, false)").due("step(0)", "c").does("accept(0, 1, false)").due("step(0)", "e")
                .due("asked(0)", 3).table(0, "0 1", "0 1").end();
        Script.of("17: the state of its machine accepts as the row did").machine(1, "1 0", "1")
                .does("learner(0, false)").due("step(0)", "c").does("accept(0, 0, true)").due("step(0)", "e")
                .due("believes(0)", false).word("a").due("believes(0)", true).end();
    }

    private static void stepCompares() {
        Script.of("17: whether its machine is the same as that which it learns, as that is now").machine(1, "1 1", "1")
                .does("learner(0, false)").due("step(0)", "c").does("accept(0, 0, true); accept(0, 1, false)")
                .does("lead(0, 0, a, 0)").due("step(0)", "e").does("check(0)").due("step(0)", "d").end();
        Script.of("17: a machine that changed to what it was is the same").machine(1, "1 0", "1")
                .does("learner(0, false)").due("step(0)", "c").does("accept(0, 0, true); accept(0, 0, false)")
                .due("step(0)", "d").end();
        Script.of("17: this question counts apart").machine(2, RING, "2").does("learner(0, false)")
                .due("step(0)", "e").due("compared(0)", 1).due("asked(0)", 3).due("step(0)", "c")
                .due("compared(0)", 1).due("step(0)", "c d").due("compared(0)", 2).due("asked(0)", 15).end();
    }

    private static void stepOfOneThatIsDone() {
        Script.of("17: it does nothing more in a step").machine(2, RING, "2").does("learner(0, false)")
                .due("step(0)", "e c c d d d").due("asked(0)", 15).due("compared(0)", 2)
                .table(0, "0 1 2", "0 1 2").end();
        Script.of("17: it does nothing more in a step, even if its machine changed").machine(2, RING, "2")
                .does("learner(0, false)").due("step(0)", "e c c d").does("accept(0, 0, true); lead(0, 0, a, 0)")
                .due("step(0)", "d d").due("asked(0)", 15).due("compared(0)", 2).table(0, "0 1 2", "0 1 2")
                .word("aa").due("believes(0)", true).end();
        Script.of("17: until it checks").machine(2, RING, "2").does("learner(0, false)").due("step(0)", "e c c d")
                .does("accept(0, 2, false)").due("check(0)", 5).due("step(0)", "d").due("compared(0)", 3).end();
        Script.of("Terms: a learner that is done has the least machine").machine(1, "1 2 3 4 5 6 7 0", "37")
                .does("learner(0, true)").due("step(0)", "e c e c c d").due("rows(0)", 4).due("least(0)", 4).end();
    }

    private static void stepWithoutHalving() {
        Script.of("17: all endings of the word, the shortest one first, the whole word included")
                .machine(1, CHAIN, "7").does("learner(0, false)").due("step(0)", "e")
                .table(0, "0", "0 1 2 3 4 5 6 7").due("asked(0)", 2).end();
        Script.of("17: endings that are no columns yet: aa, but not a once more").machine(1, "1 2 2", "")
                .does("learner(0, false)").due("step(0)", "d").does("check(0); accept(0, 1, true)").due("step(0)", "e")
                .table(0, "0", "0 1").does("accept(0, 1, false); check(0)").due("step(0)", "d")
                .does("check(0); accept(0, 2, true)").due("step(0)", "e").table(0, "0", "0 1 2").end();
        Script.of("17: no ending is new").machine(1, "1 1", "0").does("learner(0, false)").due("step(0)", "c")
                .does("accept(0, 1, true)").due("step(0)", "e c e e").table(0, "0 1 2", "0 1").due("asked(0)", 5).end();
    }

    private static void stepWithHalving() {
        Script.of("17: the word behind the greatest place becomes the last column").machine(1, CHAIN, "7")
                .does("learner(0, true)").due("step(0)", "e").table(0, "0", "0 6").end();
        // Its machine has one row, so that a place stands for the rest of the word, which is not accepted.
        Script.of("17: the whole word is asked for first, then the places 3 and 1").machine(1, CHAIN, "7")
                .does("learner(0, true)").due("step(0)", "e").due("asked(0)", 5).does("accept(0, 7, false)")
                .due("check(0)", 1).end();
        // Its machine goes to the row a, and stays: the place 1 is the whole word of 6 letters, 3 and 2 are not.
        Script.of("17: the same answer as that of the place 0 makes it the least one").machine(1, CHAIN, "07")
                .does("learner(0, true)").due("step(0)", "c e").table(0, "0 1", "0 5").due("asked(0)", 6).end();
        Script.of("17: places that are kept are not asked for again").machine(1, CHAIN, "7").does("learner(0, true)")
                .due("step(0)", "e").due("asked(0)", 5).due("step(0)", "c").due("asked(0)", 5).end();
        // Its machine is at the row a by one letter, at the empty row by two: the places are the words aaa and a.
        Script.of("17: a place stands for the row to which its machine comes").machine(1, "2 1 1", "2")
                .does("learner(0, true)").due("step(0)", "c e").due("asked(0)", 4).table(0, "0 1", "0 1").end();
        // The table asks for 2 and for 8 letters; of the places 0, 3, 1 and 2, it is 3 that is not kept: 5 letters.
        Script.of("17: a place stands for the row a, to which its machine comes and stays").machine(1, CHAIN, "7")
                .does("learner(0, true)").due("step(0)", "e c e").due("asked(0)", 8)
                .table(0, "0 1", "0 6 5").end();
    }

    private static void stepWithHalvingOfShortWords() {
        Script.of("17: the places of a word of one letter are next to each other").does("machine(1, 2)")
                .does("lead(0, 0, a, 1); learner(0, true)").due("step(0)", "d").does("check(0); accept(0, 1, true)")
                .due("step(0)", "e e").due("asked(0)", 4).table(0, "0", "0").due("compared(0)", 3).end();
        Script.of("17: a word of two letters").machine(1, "1 2 2", "2").does("learner(0, true)").due("step(0)", "e")
                .due("asked(0)", 3).table(0, "0", "0 1").end();
        Script.of("17: a word of three letters").machine(1, "1 2 3 3", "3").does("learner(0, true)").due("step(0)", "e")
                .due("asked(0)", 4).table(0, "0", "0 2").end();
        Script.of("17: a word of four letters, the places 0, 2 and 1").machine(1, "1 2 3 4 4", "4")
                .does("learner(0, true)").due("step(0)", "e").due("asked(0)", 5).table(0, "0", "0 3").end();
        Script.of("17: a word of six letters, the places 0, 3 and 1").machine(1, "1 2 3 4 5 6 6", "6")
                .does("learner(0, true)").due("step(0)", "e").due("asked(0)", 5).table(0, "0", "0 5").end();
        Script.of("17: a word of five letters, the middle is rounded down").machine(1, "1 2 3 4 5 5", "5")
                .does("learner(0, true)").due("step(0)", "e").due("asked(0)", 5).table(0, "0", "0 4").end();
        // All its words are kept as not accepted, so that each place has the answer of the place 0.
        Script.of("17: the word behind the place n is the empty one, which is a column").machine(1, "1 2 2", "2")
                .does("learner(0, true)").due("step(0)", "e").does("accept(0, 2, false)").due("check(0)", 1)
                .due("step(0)", "d").does("check(0); accept(0, 2, true)").due("asked(0)", 9).due("step(0)", "e e")
                .due("asked(0)", 9).table(0, "0", "0 1").end();
    }

    /** The least and the greatest place are both 0, and all endings are a column already. */
    private static void stepWithTheEmptyWord() {
        for (String isHalving : new String[] {"true", "false"}) {
            Script.of("17: the empty word tells its machine apart").does("machine(2, 1)")
                    .does("learner(0, " + isHalving + ")").due("step(0)", "d").does("check(0); accept(0, 0, true)")
                    .due("step(0)", "e e").due("asked(0)", 6).due("compared(0)", 3).table(0, "0", "0")
                    .due("believes(0)", false).due("check(0)", 3).due("step(0)", "d").due("believes(0)", true).end();
        }
        // It keeps all that it wants, as the machine was: that the empty word is not accepted, among it.
        String[][] kinds = {{"false", "0 1 2", "15"}, {"true", "0 1", "11"}};
        for (String[] kind : kinds) {
            Script.of("17: its only ending is a column from the start, and no other one is added, " + kind[0])
                    .machine(2, RING, "2").does("learner(0, " + kind[0] + ")").due("step(0)", "e c c d")
                    .due("asked(0)", kind[2]).does("check(0); accept(0, 0, true)").due("step(0)", "e e")
                    .table(0, "0 1 2", kind[1]).due("asked(0)", 2 * Integer.parseInt(kind[2])).due("compared(0)", 4)
                    .due("isDone(0)", false).does("accept(0, 0, false)").due("step(0)", "d").end();
        }
    }

    /**
     * A machine with one letter and one state accepts all words or none, so each word is kept as it is wanted; the
     * columns are the words up to 7 letters, and the answers of a row are a window on a row of answers.
     */
    private static Script windows(String sentence, String wanted) {
        Script script = Script.of(sentence).machine(1, CHAIN, "7").does("learner(0, false); step(0)")
                .does("lead(0, 0, a, 0); check(0)");
        for (char answer : wanted.toCharArray()) {
            script.does("accept(0, 0, " + (answer == '1') + ")").due("step(0)", "c");
        }
        return script;
    }

    private static void stepWithManyRows() {
        // The row behind the last one would be as the first one: its words have 19 letters more.
        String nineteen = "101100111010000000";
        windows("17: 19 rows are not too many for a row more", "1011001110001111010").due("rows(0)", 20)
                .due("row(0, 19)", 19).due("columns(0)", 8).end();
        windows("17: 19 rows are not too many for a machine", nineteen).due("rows(0)", 19)
                .does("accept(0, 0, false)").due("step(0)", "e").due("rows(0)", 19).due("columns(0)", 9)
                .word("aaaaaaaa").due("believes(0)", true).word("aaaaaaa").due("believes(0)", false).end();
        windows("17: throws if it is not done, and has 20 rows", "1011001110001111010")
                .refused("step(0)", STATE).refused("row(0, 20)", INDEX).end();
        windows("18: a learner with 20 rows checks", "1011001110001111010").does("accept(0, 0, false)")
                .due("check(0)", 11).due("rows(0)", 1).due("step(0)", "d").end();
    }

    /** Lets a learner of one row find a word, by a machine that accepts no other one of its length. */
    private static void teach(Script script, String before, String word) {
        script.does("accept(0, " + before.length() + ", false)");
        for (int i = 0; i < before.length(); i++) {
            script.does("lead(0, " + i + ", " + before.charAt(i) + ", " + i + ")");
        }
        // It is to keep that none of its words is accepted, so that the machine can change behind its back.
        script.does("check(0)").due("step(0)", "d").does("check(0)");
        for (int i = 0; i < word.length(); i++) {
            script.does("lead(0, " + i + ", " + word.charAt(i) + ", " + (i + 1) + ")");
        }
        script.does("accept(0, " + word.length() + ", true)").due("step(0)", "e");
    }

    private static Script taught(String sentence, String words) {
        Script script = Script.of(sentence).does("machine(3, 8); learner(0, false)");
        String before = "";
        for (String word : words.split(" ")) {
            teach(script, before, word);
            before = word;
        }
        return script;
    }

    private static void stepWithManyColumns() {
        // The first three have 7 endings that are new, the others 6, as their last letter is a column already.
        String words = "aaaaaaa bbbbbbb ccccccc abababa cbcbcbc ";
        taught("17: 39 columns are not too many for a row more", words + "cacaca").due("columns(0)", 39)
                .due("column(0, 38)", 6).due("step(0)", "c").due("columns(0)", 39).end();
        taught("17: 39 columns are not too many for columns more", words + "cacaca bcbcbcb").due("columns(0)", 45)
                .due("column(0, 44)", 7).refused("column(0, 45)", INDEX).end();
        taught("17: throws if it is not done, and has 40 columns", words + "acacaca").due("columns(0)", 40)
                .due("column(0, 39)", 7).refused("step(0)", STATE).refused("column(0, 40)", INDEX).end();
        taught("17: throws if it is not done, and has more than 40 columns", words + "cacaca bcbcbcb")
                .refused("step(0)", STATE).end();
        taught("18: a learner with 40 columns checks, and still has them", words + "acacaca").does("check(0)")
                .due("columns(0)", 40).due("isDone(0)", false).refused("step(0)", STATE).end();
    }

    private static void check() {
        Script.of("18: a new learner asks for the only row with the only column").does("machine(3, 2)")
                .does("learner(0, true)").due("check(0)", 0).due("asked(0)", 1).table(0, "0", "0")
                .due("compared(0)", 0).refused("believes(0)", NONE).end();
        Script.of("18: returns how many answers are other than they were").machine(2, RING, "2")
                .does("learner(0, false)").due("step(0)", "e c c d").due("check(0)", 0).does("accept(0, 2, false)")
                .due("check(0)", "5 0").does("accept(0, 2, true)").due("check(0)", "5 0").end();
        Script.of("18: all answers are other ones").does("machine(3, 1); learner(0, true); step(0)")
                .does("accept(0, 0, true)").due("check(0)", "4 0").end();
        Script.of("18: it keeps the new answers").does("machine(1, 1); learner(0, true)").due("step(0)", "d")
                .does("accept(0, 0, true); check(0)").due("step(0)", "d").due("believes(0)", true)
                .due("asked(0)", 4).end();
        Script.of("18: a machine that changed there and back").machine(2, RING, "2").does("learner(0, false)")
                .due("step(0)", "e c c d").does("accept(0, 2, false); accept(0, 2, true)").due("check(0)", 0).end();
        Script.of("18: an answer that was got between two changes").machine(1, "1 1", "1").does("learner(0, false)")
                .due("step(0)", "c").does("accept(0, 1, false)").due("step(0)", "e").does("accept(0, 1, true)")
                .due("check(0)", 1).end();
        Script.of("18: it is not done").does("machine(1, 1); learner(0, true)").due("step(0)", "d")
                .due("isDone(0)", true).due("check(0)", 0).due("isDone(0)", false).due("step(0)", "d").end();
    }

    private static void checkAsks() {
        Script.of("18: each question counts, of all that it keeps").machine(2, RING, "2").does("learner(0, false)")
                .due("step(0)", "e c c d").due("asked(0)", 15).due("check(0)", 0).due("asked(0)", 30)
                .due("check(0)", 0).due("asked(0)", 45).end();
        Script.of("18: words that were asked for by halving are kept, too").machine(1, CHAIN, "7")
                .does("learner(0, true)").due("step(0)", "e").due("asked(0)", 5).due("check(0)", 0)
                .due("asked(0)", 5 + 5).end();
        // Columns are added: the empty word, a and aa, of which aa is not kept.
        Script.of("18: it asks for all rows with all columns behind them, as far as it does not keep them")
                .machine(2, RING, "2").does("learner(0, false)").due("step(0)", "e").due("asked(0)", 3)
                .due("check(0)", 0).due("asked(0)", 3 + 3 + 1).due("check(0)", 0).due("asked(0)", 7 + 4).end();
        Script.of("18: it does not ask for rows with a letter").machine(2, "10 10", "1").does("learner(0, false)")
                .due("step(0)", "c").due("asked(0)", 3).due("check(0)", 0).due("asked(0)", 6).end();
        Script.of("18: what it did not keep is no other answer").machine(1, "1 2 2", "2").does("learner(0, false)")
                .due("step(0)", "e").does("accept(0, 0, true)").due("check(0)", 1).due("asked(0)", 2 + 2 + 1).end();
    }

    private static void checkDropsRows() {
        Script.of("18: each row whose answers are those of an earlier one is dropped").machine(2, RING, "2")
                .does("learner(0, false)").due("step(0)", "e c c d").table(0, "0 1 2", "0 1 2")
                .does("accept(0, 2, false); check(0)").table(0, "0", "0 1 2").refused("row(0, 1)", INDEX).end();
        Script.of("18: rows whose answers are other ones stay").machine(2, RING, "2").does("learner(0, false)")
                .due("step(0)", "e c c d").does("accept(0, 0, true)").due("check(0)", 5)
                .table(0, "0 1 2", "0 1 2").end();
        // The row aa is as the row a, but the rows up to the empty word are not.
        Script.of("18: the earlier one stays, rows behind it are dropped").machine(1, "1 2 2", "2")
                .does("learner(0, false)").due("step(0)", "e c c d").table(0, "0 1 2", "0 1 2")
                .does("accept(0, 1, true)").due("check(0)", 1).table(0, "0 1", "0 1 2").end();
        // Up to 3 letters, a and aa are accepted at first, aaa is later; the columns are the empty word and a.
        Script.of("18: a row between others is dropped").machine(1, CHAIN, "").does("learner(0, false)")
                .due("step(0)", "d").does("check(0); accept(0, 1, true); accept(0, 2, true)").due("step(0)", "e")
                .due("check(0)", 1).due("step(0)", "c c c d").table(0, "0 1 2 3", "0 1")
                .does("accept(0, 1, false); accept(0, 2, false); accept(0, 3, true); accept(0, 4, true)")
                .does("accept(0, 5, true); accept(0, 6, true); accept(0, 7, true)").due("check(0)", 5)
                .table(0, "0 2 3", "0 1").refused("row(0, 3)", INDEX).due("step(0)", "e c d")
                .table(0, "0 2 3 1", "0 1 2 3").end();
        Script.of("18: all rows but the first one are dropped").machine(1, "1 2 2", "2").does("learner(0, false)")
                .due("step(0)", "e c c d").does("accept(0, 2, false)").due("check(0)", 4).table(0, "0", "0 1 2").end();
        Script.of("18: no row is dropped if its column tells it apart").machine(1, CHAIN, "7").does("learner(0, false)")
                .due("step(0)", "e c c c c c c c d").due("check(0)", 0).table(0, "0 1 2 3 4 5 6 7", "0 1 2 3 4 5 6 7")
                .due("asked(0)", 32).end();
    }

    private static void rowsAndColumns() {
        for (String number : new String[] {"3", "-1", "2147483647", "-2147483648"}) {
            Script.of("21: throws if there is no such row").machine(2, RING, "2").does("learner(0, false)")
                    .due("step(0)", "e c c").due("row(0, 2)", 2).refused("row(0, " + number + ")", INDEX).end();
            Script.of("22: throws if there is no such column").machine(2, RING, "2").does("learner(0, false)")
                    .due("step(0)", "e c c").due("column(0, 2)", 2).refused("column(0, " + number + ")", INDEX).end();
        }
        Script.of("19: one more behind a c, and no more behind an e or a d").machine(2, RING, "2")
                .does("learner(0, false)").due("rows(0)", 1).due("step(0)", "e").due("rows(0)", 1).due("step(0)", "c")
                .due("rows(0)", 2).due("step(0)", "c").due("rows(0)", 3).due("step(0)", "d").due("rows(0)", 3).end();
        Script.of("20: more behind an e, and no more behind a c or a d").machine(2, RING, "2")
                .does("learner(0, false)").due("columns(0)", 1).due("step(0)", "e").due("columns(0)", 3)
                .due("step(0)", "c c d").due("columns(0)", 3).due("check(0)", 0).due("columns(0)", 3).end();
        Script.of("21: rows of one learner are not those of another one").machine(2, RING, "2")
                .does("learner(0, false); learner(0, false)").due("step(0)", "e c").due("row(0, 1)", 1)
                .refused("row(1, 1)", INDEX).refused("column(1, 1)", INDEX).end();
    }

    private static void asked() {
        Script.of("23: questions of one learner are not those of another one").does("machine(3, 1)")
                .does("learner(0, false); learner(0, true)").due("step(0)", "d").due("asked(0)", 4)
                .due("asked(1)", 0).end();
        Script.of("23: checked ones each time").does("machine(3, 1); learner(0, false)").due("step(0)", "d")
                .due("asked(0)", 4).due("check(0)", 0).due("asked(0)", 8).due("check(0)", 0).due("asked(0)", 12).end();
        Script.of("23: asking does not count").does("machine(3, 1); learner(0, false)").due("step(0)", "d")
                .does("rows(0); row(0, 0); believes(0); isSound(); accepts(0); meanAsked()").due("asked(0)", 4).end();
    }

    private static void compared() {
        Script.of("24: none as long as rows are added").machine(1, "1 0", "1").does("learner(0, true)")
                .due("step(0)", "c").due("compared(0)", 0).due("step(0)", "d").due("compared(0)", 1)
                .due("step(0)", "d").due("compared(0)", 1).end();
        Script.of("24: a check asks no such question").does("machine(1, 1); learner(0, true)").due("check(0)", 0)
                .due("compared(0)", 0).due("step(0)", "d").due("check(0)", 0).due("compared(0)", 1)
                .due("step(0)", "d").due("compared(0)", 2).end();
    }

    private static void isDone() {
        Script.of("25: not behind a c or an e").machine(2, RING, "2").does("learner(0, false)")
                .due("isDone(0)", false).due("step(0)", "e").due("isDone(0)", false).due("step(0)", "c c")
                .due("isDone(0)", false).due("step(0)", "d").due("isDone(0)", true).end();
        Script.of("25: a learner that is done stays so until it checks").machine(2, RING, "2")
                .does("learner(0, false)").due("step(0)", "e c c d").does("accept(0, 0, true)").due("isDone(0)", true)
                .due("step(0)", "d").due("isDone(0)", true).due("check(0)", 5).due("isDone(0)", false).end();
    }

    private static void believes() {
        Script.of("26: throws if it made none").does("machine(2, 2); learner(0, true)").refused("believes(0)", NONE)
                .end();
        Script.of("26: a step that adds a row makes none").machine(1, "1 0", "1").does("learner(0, true)")
                .due("step(0)", "c").refused("believes(0)", NONE).due("step(0)", "d").due("believes(0)", false).end();
        Script.of("26: a check makes none").does("machine(2, 2); learner(0, true); check(0)")
                .refused("believes(0)", NONE).end();
        String[][] words = {{"1", "b"}, {"1", "aaaaaaaaaaac"}, {"2", "c"}, {"2", "caaaaaaaaaaa"}, {"2", "abcab"}};
        for (String[] word : words) {
            Script.of("26: throws if the word has a letter that the machine has not, " + word[1])
                    .does("machine(" + word[0] + ", 2); machine(3, 2); learner(0, true)").due("step(0)", "d")
                    .word(word[1]).refused("believes(0)", ARGUMENT).end();
        }
        Script.of("26: the machine that it made last, be it wrong").machine(2, RING, "2").does("learner(0, false)")
                .due("step(0)", "e").word("aa").due("believes(0)", false).due("step(0)", "c c")
                .due("believes(0)", false)
                .due("step(0)", "d").due("believes(0)", true).word("abaaba").due("believes(0)", false).end();
        Script.of("26: as it was made then, whatever changes").machine(2, RING, "2").does("learner(0, false)")
                .due("step(0)", "e c c d").word("aa").does("accept(0, 2, false)").due("believes(0)", true)
                .due("check(0)", 5).due("rows(0)", 1).due("believes(0)", true).due("step(0)", "d")
                .due("believes(0)", false).end();
        Script.of("26: the empty word").does("machine(1, 1); accept(0, 0, true); learner(0, true)").due("step(0)", "d")
                .due("believes(0)", true).end();
    }

    private static void twoExceptions() {
        Script.of("16: no such machine, and 4 learners").does("machine(1, 1)").due("learner(0, true)", "0 1 2 3")
                .refused("learner(1, true)", INDEX).refused("learner(-1, true)", INDEX).end();
        windows("17: no such learner, and another one has 20 rows", "1011001110001111010").refused("step(1)", INDEX)
                .end();
        Script.of("21: no such learner, and no such row").does("machine(1, 1); learner(0, true)")
                .refused("row(1, 1)", INDEX).refused("column(1, 1)", INDEX).end();
        Script.of("26: no such learner, and another letter").does("machine(1, 1); learner(0, true)").word("b")
                .refused("believes(1)", INDEX).end();
        Script.of("26: it made no machine, and another letter").does("machine(1, 1); learner(0, true)").word("b")
                .refused("believes(0)", NONE).end();
    }
}
