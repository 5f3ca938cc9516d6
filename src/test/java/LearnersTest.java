import java.util.NoSuchElementException;

/** Promises 16 to 26. */
public final class LearnersTest {
    private static final Class<IndexOutOfBoundsException> INDEX = IndexOutOfBoundsException.class;

    /** A ring of three by a, in which the last state accepts; b stays. */
    private static final String RING = "10 21 02";

    public static void main(String[] args) {
        learner();
        withoutLearners();
        stepOnce();
        stepToTheEnd();
        stepByHalving();
        stepWithOldAnswers();
        stepWithTheEmptyWord();
        stepIsDone();
        stepWith20Rows();
        stepWith40Columns();
        check();
        checkDropsRows();
        checkDropsRowsBetween();
        rowsAndColumns();
        asked();
        compared();
        isDone();
        believes();
        Due.end();
    }

    private static void learner() {
        LearnHall hall = new LearnHall();
        Due.fails(hall, INDEX, "learner(0) without machines", () -> hall.learner(0, true));
        hall.machine(1, 1);
        Due.fails(hall, INDEX, "learner(1)", () -> hall.learner(1, true));
        Due.fails(hall, INDEX, "learner(-1)", () -> hall.learner(-1, true));
        for (int i = 0; i < 4; i++) {
            Due.is("learner " + i, i, hall.learner(0, i % 2 == 0));
        }
        Due.fails(hall, IllegalStateException.class, "a 5th learner", () -> hall.learner(0, false));
        Due.fails(hall, INDEX, "a 5th learner of no machine", () -> hall.learner(1, false));
        Due.is("rows(3)", 1, hall.rows(3));
        Due.is("columns(3)", 1, hall.columns(3));
        Due.is("row(3, 0)", 0, hall.row(3, 0));
        Due.is("column(3, 0)", 0, hall.column(3, 0));
        Due.is("asked(3)", 0, hall.asked(3));
        Due.is("compared(3)", 0, hall.compared(3));
        Due.is("isDone(3)", false, hall.isDone(3));
        Due.fails(hall, INDEX, "step(4)", () -> hall.step(4));
        Due.fails(hall, INDEX, "check(4)", () -> hall.check(4));
    }

    private static void withoutLearners() {
        outside(0, 0);
        for (int learner : new int[] {1, -1, 4, Integer.MIN_VALUE, Integer.MAX_VALUE}) {
            outside(1, learner);
        }
    }

    private static void outside(int learners, int learner) {
        LearnHall hall = new LearnHall();
        hall.machine(2, 2);
        for (int i = 0; i < learners; i++) {
            hall.learner(0, true);
        }
        Due.fails(hall, INDEX, "step(" + learner + ")", () -> hall.step(learner));
        Due.fails(hall, INDEX, "check(" + learner + ")", () -> hall.check(learner));
        Due.fails(hall, INDEX, "rows(" + learner + ")", () -> hall.rows(learner));
        Due.fails(hall, INDEX, "columns(" + learner + ")", () -> hall.columns(learner));
        Due.fails(hall, INDEX, "row(" + learner + ", 0)", () -> hall.row(learner, 0));
        Due.fails(hall, INDEX, "column(" + learner + ", 0)", () -> hall.column(learner, 0));
        Due.fails(hall, INDEX, "asked(" + learner + ")", () -> hall.asked(learner));
        Due.fails(hall, INDEX, "compared(" + learner + ")", () -> hall.compared(learner));
        Due.fails(hall, INDEX, "isDone(" + learner + ")", () -> hall.isDone(learner));
        Due.fails(hall, INDEX, "believes(" + learner + ")", () -> hall.believes(learner));
    }

    private static void stepOnce() {
        LearnHall hall = new LearnHall();
        Schools.add(hall, 2, "10 10", "1");
        hall.learner(0, false);
        Due.is("step that adds the row a", 'c', hall.step(0));
        Due.is("rows(0)", 2, hall.rows(0));
        Due.is("row(0, 1)", 1, hall.row(0, 1));
        Due.is("asked(0): the empty word, a, b", 3, hall.asked(0));
        Due.is("compared(0)", 0, hall.compared(0));
        Due.is("step that compares", 'd', hall.step(0));
        Due.is("asked(0): aa and ab, too", 5, hall.asked(0));
        Due.is("compared(0)", 1, hall.compared(0));
        Due.is("step of one that is done", 'd', hall.step(0));
        Due.is("compared(0) of one that is done", 1, hall.compared(0));
    }

    private static void stepToTheEnd() {
        LearnHall hall = new LearnHall();
        Schools.add(hall, 2, RING, "2");
        hall.learner(0, false);
        Due.is("steps", "eccd", Schools.steps(hall, 0, 4));
        Due.is("columns: the empty word, a, aa", "0 1 2", columns(hall, 0));
        Due.is("rows: the empty word, a, aa", "0 1 2", rows(hall, 0));
        Due.is("asked: aaa is the first word that is asked once", 15, hall.asked(0));
        // The machine of the rows "" and b is told apart by cb, so that b becomes a column and c a row ahead of ba.
        LearnHall other = new LearnHall();
        Schools.add(other, 3, "021 111 122", "2");
        other.learner(0, false);
        Due.is("first steps", "ce", Schools.steps(other, 0, 2));
        Due.is("columns: the empty word, b, cb", "0 1 2", columns(other, 0));
        Due.is("step", 'c', other.step(0));
        Due.is("rows: the empty word, b, c", "0 1 1", rows(other, 0));
        Due.is("step", 'd', other.step(0));
        Due.is("rows", "0 1 1", rows(other, 0));
    }

    private static void stepByHalving() {
        LearnHall hall = new LearnHall();
        Schools.add(hall, 1, "1 2 3 4 5 6 7 7", "7");
        hall.learner(0, true);
        hall.learner(0, false);
        // Its machine has one row, so that a place stands for the rest of aaaaaaa alone, which is not accepted.
        Due.is("first step by halving", 'e', hall.step(0));
        Due.is("asked: 2 for the table, the whole word, places 3 and 1", 5, hall.asked(0));
        Due.is("the word behind the place 1", "0 6", columns(hall, 0));
        Due.is("first step without halving", 'e', hall.step(1));
        Due.is("asked: 2 for the table", 2, hall.asked(1));
        Due.is("all endings, the shortest ones first", "0 1 2 3 4 5 6 7", columns(hall, 1));
        Due.is("steps without halving", "cccccccd", Schools.steps(hall, 1, 8));
        Due.is("asked: all words up to 15 letters", 16, hall.asked(1));
        LearnHall late = new LearnHall();
        Schools.add(late, 1, "1 2 3 4 5 6 7 7", "0");
        late.accept(0, 7, true);
        late.learner(0, true);
        Due.is("a learner that has two rows", "ce", Schools.steps(late, 0, 2));
        // Its machine goes to the row a, and stays, so that the place 1 is the whole word, and 2 is not.
        Due.is("asked: 3 for the table, the whole word, a with 4 and with 5 more", 6, late.asked(0));
        Due.is("columns", "0 5", columns(late, 0));
    }

    private static void stepWithOldAnswers() {
        LearnHall hall = new LearnHall();
        Schools.add(hall, 1, "1 0", "1");
        hall.learner(0, false);
        Due.is("steps", "cd", Schools.steps(hall, 0, 2));
        LearnHall other = new LearnHall();
        Schools.add(other, 1, "1 0", "1");
        other.learner(0, false);
        Due.is("step", 'c', other.step(0));
        other.accept(0, 0, true);
        Due.is("step: a, aa and the empty word are kept as they were", 'e', other.step(0));
        Due.is("asked: aa is new", 3, other.asked(0));
        Due.is("the empty word tells them apart, and is a column", "0", columns(other, 0));
        Due.is("rows", "0 1", rows(other, 0));
    }

    private static void stepWithTheEmptyWord() {
        for (int halving = 0; halving < 2; halving++) {
            LearnHall hall = new LearnHall();
            hall.machine(2, 1);
            hall.learner(0, halving == 1);
            hall.step(0);
            hall.check(0);
            hall.accept(0, 0, true);
            Due.is("step: the empty word tells them apart", 'e', hall.step(0));
            Due.is("no column is added", 1, hall.columns(0));
            Due.is("asked: three, and again by check", 6, hall.asked(0));
            Due.is("compared", 2, hall.compared(0));
            Due.is("step: nothing changes", 'e', hall.step(0));
            Due.is("asked", 6, hall.asked(0));
            Due.is("compared", 3, hall.compared(0));
            Due.is("check: all three are other answers", 3, hall.check(0));
            Due.is("step", 'd', hall.step(0));
        }
    }

    private static void stepIsDone() {
        LearnHall hall = new LearnHall();
        Schools.add(hall, 2, RING, "2");
        hall.learner(0, true);
        Schools.steps(hall, 0, 6);
        Due.is("isDone", true, hall.isDone(0));
        int asked = hall.asked(0);
        hall.accept(0, 0, true);
        Due.is("step of one that is done, and whose machine changed", 'd', hall.step(0));
        Due.is("isDone", true, hall.isDone(0));
        Due.is("asked", asked, hall.asked(0));
    }

    /**
     * A machine with one letter and one state accepts all words or none, so each word is kept as it is wanted; the
     * columns are the words up to 7 letters, and the answers of a row are a window on a row of answers.
     */
    private static LearnHall windows() {
        LearnHall hall = new LearnHall();
        Schools.add(hall, 1, "1 2 3 4 5 6 7 7", "7");
        hall.learner(0, false);
        hall.step(0);
        hall.lead(0, 0, 'a', 0);
        hall.check(0);
        return hall;
    }

    private static void stepWith20Rows() {
        LearnHall hall = windows();
        String wanted = "1011001110001111010000010111";
        for (int i = 0; i < 19; i++) {
            Due.is("rows", i + 1, hall.rows(0));
            hall.accept(0, 0, wanted.charAt(i) == '1');
            Due.is("step of a learner with " + (i + 1) + " rows", 'c', hall.step(0));
        }
        Due.is("rows", 20, hall.rows(0));
        Due.is("row(0, 19)", 19, hall.row(0, 19));
        Due.fails(hall, INDEX, "row(0, 20)", () -> hall.row(0, 20));
        Due.fails(hall, IllegalStateException.class, "step of a learner with 20 rows", () -> hall.step(0));
        Due.is("columns", 8, hall.columns(0));
        hall.accept(0, 0, false);
        int kept = hall.asked(0);
        Due.is("check", true, hall.check(0) > 0);
        Due.is("asked", true, hall.asked(0) > kept);
        Due.is("rows", 1, hall.rows(0));
        Due.is("step of a learner with 1 row again", 'd', hall.step(0));
    }

    private static void stepWith40Columns() {
        // The first three have 7 endings that are new, the others 6, as their last letter is a column already.
        String[] words = {"aaaaaaa", "bbbbbbb", "ccccccc", "abababa", "cbcbcbc"};
        for (int columns = 39; columns <= 40; columns++) {
            LearnHall hall = new LearnHall();
            hall.machine(3, 8);
            hall.learner(0, false);
            String before = "";
            for (String word : words) {
                teach(hall, before, word);
                before = word;
            }
            Due.is("columns", 34, hall.columns(0));
            teach(hall, before, columns == 39 ? "cacaca" : "acacaca");
            Due.is("columns", columns, hall.columns(0));
            Due.is("the last column", columns - 33, hall.column(0, columns - 1));
            Due.fails(hall, INDEX, "column behind the last one", () -> hall.column(0, hall.columns(0)));
            if (columns == 39) {
                Due.is("step of a learner with 39 columns", 'c', hall.step(0));
            } else {
                Due.fails(hall, IllegalStateException.class, "step of a learner with 40 columns", () -> hall.step(0));
                hall.check(0);
                Due.fails(hall, IllegalStateException.class, "step after a check", () -> hall.step(0));
            }
        }
    }

    /** Lets a learner of one row find a word, by a machine that accepts no other one of its length. */
    private static void teach(LearnHall hall, String before, String word) {
        hall.accept(0, before.length(), false);
        for (int i = 0; i < before.length(); i++) {
            hall.lead(0, i, before.charAt(i), i);
        }
        // It is to keep that none of its words is accepted, so that the machine can change behind its back.
        hall.check(0);
        Due.is("step when nothing is accepted", 'd', hall.step(0));
        hall.check(0);
        for (int i = 0; i < word.length(); i++) {
            hall.lead(0, i, word.charAt(i), i + 1);
        }
        hall.accept(0, word.length(), true);
        Due.is("step for " + word, 'e', hall.step(0));
    }

    private static void check() {
        LearnHall hall = new LearnHall();
        Schools.add(hall, 2, RING, "2");
        hall.learner(0, false);
        Due.is("check of a new learner", 0, hall.check(0));
        Due.is("asked: the only row with the only column", 1, hall.asked(0));
        Due.is("steps", "eccd", Schools.steps(hall, 0, 4));
        Due.is("asked", 15 + 0, hall.asked(0));
        Due.is("check of one whose machine did not change", 0, hall.check(0));
        Due.is("asked: all 15 again", 30, hall.asked(0));
        Due.is("isDone", false, hall.isDone(0));
        Due.is("step", 'd', hall.step(0));
        Due.is("asked", 30, hall.asked(0));
        Due.is("compared", 3, hall.compared(0));
        hall.accept(0, 2, false);
        Due.is("check: the words with two or five a", 5, hall.check(0));
        Due.is("check again", 0, hall.check(0));
        Due.is("asked", 60, hall.asked(0));
    }

    private static void checkDropsRows() {
        LearnHall hall = windows();
        hall.accept(0, 0, true);
        Due.is("steps", "ccc", Schools.steps(hall, 0, 3));
        Due.is("rows", "0 1 2 3", rows(hall, 0));
        Due.is("check: the words up to 7 letters were not accepted", 8, hall.check(0));
        Due.is("rows when all words are accepted", "0", rows(hall, 0));
        Due.is("columns stay", 8, hall.columns(0));
        Due.is("step", 'd', hall.step(0));
    }

    /** Check drops the row a, so that no row is ahead of the row aa any more; a becomes a row once more. */
    private static void checkDropsRowsBetween() {
        LearnHall hall = new LearnHall();
        hall.machine(1, 8);
        hall.learner(0, false);
        Due.is("step", 'd', hall.step(0));
        hall.check(0);
        chain(hall, "01100000");
        Due.is("step that adds the column a", 'e', hall.step(0));
        Due.is("columns", "0 1", columns(hall, 0));
        Due.is("check: a", 1, hall.check(0));
        Due.is("steps", "cccd", Schools.steps(hall, 0, 4));
        Due.is("rows", "0 1 2 3", rows(hall, 0));
        int asked = hall.asked(0);
        chain(hall, "00011111");
        Due.is("check: all up to 5 letters but the empty word", 5, hall.check(0));
        Due.is("asked", asked + 6, hall.asked(0));
        Due.is("rows: the empty word, aa, aaa", "0 2 3", rows(hall, 0));
        Due.is("step: the empty word is like a", 'e', hall.step(0));
        Due.is("columns", "0 1 2 3", columns(hall, 0));
        Due.is("steps", "cd", Schools.steps(hall, 0, 2));
        Due.is("rows: a is the last one", "0 2 3 1", rows(hall, 0));
        Due.is("isSound", true, hall.isSound());
    }

    /** Makes a machine of 8 states accept the word of n letters just if the place n is 1. */
    private static void chain(LearnHall hall, String accepted) {
        for (int s = 0; s < 8; s++) {
            hall.lead(0, s, 'a', Math.min(s + 1, 7));
            hall.accept(0, s, accepted.charAt(s) == '1');
        }
    }

    private static void rowsAndColumns() {
        LearnHall hall = new LearnHall();
        Schools.add(hall, 2, RING, "2");
        hall.learner(0, false);
        Schools.steps(hall, 0, 3);
        Due.is("rows", 3, hall.rows(0));
        Due.is("columns", 3, hall.columns(0));
        Due.is("row(0, 2)", 2, hall.row(0, 2));
        Due.is("column(0, 2)", 2, hall.column(0, 2));
        Due.fails(hall, INDEX, "row(0, 3)", () -> hall.row(0, 3));
        Due.fails(hall, INDEX, "row(0, -1)", () -> hall.row(0, -1));
        Due.fails(hall, INDEX, "column(0, 3)", () -> hall.column(0, 3));
        Due.fails(hall, INDEX, "column(0, -1)", () -> hall.column(0, -1));
        Due.fails(hall, INDEX, "row(0, max)", () -> hall.row(0, Integer.MAX_VALUE));
        Due.fails(hall, INDEX, "column(0, min)", () -> hall.column(0, Integer.MIN_VALUE));
    }

    private static void asked() {
        LearnHall hall = new LearnHall();
        hall.machine(3, 1);
        hall.learner(0, false);
        hall.learner(0, true);
        Due.is("step", 'd', hall.step(0));
        Due.is("asked(0): the empty word, a, b, c", 4, hall.asked(0));
        Due.is("asked(1)", 0, hall.asked(1));
        hall.check(0);
        hall.check(0);
        Due.is("asked(0) after two checks", 12, hall.asked(0));
    }

    private static void compared() {
        LearnHall hall = new LearnHall();
        Schools.add(hall, 1, "1 2 3 4 5 6 7 7", "7");
        hall.learner(0, true);
        String steps = "";
        int due = 0;
        for (int i = 0; i < 30; i++) {
            boolean wasDone = hall.isDone(0);
            char step = hall.step(0);
            steps += step;
            due += wasDone || step == 'c' ? 0 : 1;
            Due.is("compared after " + steps, due, hall.compared(0));
        }
        Due.is("rows", 8, hall.rows(0));
    }

    private static void isDone() {
        LearnHall hall = new LearnHall();
        Schools.add(hall, 2, RING, "2");
        hall.learner(0, false);
        for (int i = 0; i < 3; i++) {
            hall.step(0);
            Due.is("isDone", false, hall.isDone(0));
        }
        hall.step(0);
        Due.is("isDone", true, hall.isDone(0));
        hall.lead(0, 0, 'b', 1);
        Due.is("isDone after a change", true, hall.isDone(0));
        hall.check(0);
        Due.is("isDone after a check", false, hall.isDone(0));
    }

    private static void believes() {
        LearnHall hall = new LearnHall();
        Schools.add(hall, 2, RING, "2");
        hall.learner(0, false);
        Due.fails(hall, NoSuchElementException.class, "believes without a machine", () -> hall.believes(0));
        Schools.type(hall, "c");
        Due.fails(hall, NoSuchElementException.class, "believes without a machine by c", () -> hall.believes(0));
        hall.check(0);
        Due.fails(hall, NoSuchElementException.class, "believes after a check", () -> hall.believes(0));
        Due.is("step", 'e', hall.step(0));
        Due.fails(hall, IllegalArgumentException.class, "believes by c", () -> hall.believes(0));
        Schools.type(hall, "aa");
        Due.is("believes by aa, as its machine has one state", false, hall.believes(0));
        Due.is("steps", "ccd", Schools.steps(hall, 0, 3));
        Due.is("believes by aa", true, hall.believes(0));
        Schools.type(hall, "aabaaba");
        Due.is("believes by aabaaba", true, hall.believes(0));
        hall.accept(0, 2, false);
        Due.is("believes after a change", true, hall.believes(0));
        hall.check(0);
        Due.is("rows after a check", 1, hall.rows(0));
        Due.is("believes after a check", true, hall.believes(0));
        hall.step(0);
        Due.is("believes after a step", false, hall.believes(0));
    }

    private static String rows(LearnHall hall, int learner) {
        StringBuilder text = new StringBuilder();
        for (int row = 0; row < hall.rows(learner); row++) {
            text.append(row == 0 ? "" : " ").append(hall.row(learner, row));
        }
        return text.toString();
    }

    private static String columns(LearnHall hall, int learner) {
        StringBuilder text = new StringBuilder();
        for (int column = 0; column < hall.columns(learner); column++) {
            text.append(column == 0 ? "" : " ").append(hall.column(learner, column));
        }
        return text.toString();
    }
}
