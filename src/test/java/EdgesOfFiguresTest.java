/** 'What it is', promise 1, and promises 29 to 31: a run for each sentence that names an edge. */
public final class EdgesOfFiguresTest {
    private static final String INDEX = "IndexOutOfBoundsException";
    private static final String DIVISION = "ArithmeticException";
    private static final String RING = "1 2 3 4 5 6 7 0";

    public static void main(String[] args) {
        aNewObject();
        calls();
        acceptShare();
        meanAsked();
        isSound();
        isSoundOfLearners();
        Due.end();
    }

    private static void aNewObject() {
        Script.of("1: a school without machines").refused("states(0)", INDEX).refused("acceptShare()", DIVISION)
                .due("machine(1, 1)", 0).end();
        Script.of("1: a school without learners").refused("rows(0)", INDEX).refused("meanAsked()", DIVISION)
                .does("machine(1, 1)").refused("step(0)", INDEX).due("learner(0, true)", 0).end();
        Script.of("1: a school without examples").due("merge(1)", 0).leads(0, "0", "").due("example(true)", 1).end();
        Script.of("1: an empty word").due("clear()", 0).does("machine(1, 1)").due("run(0)", 0)
                .due("accepts(0)", false).end();
        Script.of("1: a school is sound").due("isSound()", true).end();
    }

    /** An object is used for at most 512 calls: the last one of them is answered as any other. */
    private static void calls() {
        Script typing = Script.of("512 calls: type and clear");
        for (int i = 0; i < 36; i++) {
            typing.due("type(c)", "1 2 3 4 5 6 7 8 9 10 11 12").due("clear()", "12 0");
        }
        typing.due("type(a)", "1 2 3 4 5 6 7 8").end();
        Script checking = Script.of("512 calls: checks are counted up to the last one").does("machine(3, 8)")
                .does("learner(0, true)");
        for (int i = 1; i <= 254; i++) {
            checking.due("step(0)", "d").due("check(0)", 0);
        }
        checking.due("compared(0)", 254).due("asked(0)", 4 * 255).end();
    }

    private static void acceptShare() {
        Script.of("29: throws if there are none").refused("acceptShare()", DIVISION).does("type(a); example(true)")
                .refused("acceptShare()", DIVISION).end();
        Script.of("29: none accepts").does("machine(1, 8)").due("acceptShare()", 0.0f).end();
        Script.of("29: all accept").does("machine(1, 2); accept(0, 0, true); accept(0, 1, true)")
                .due("acceptShare()", 1.0f).end();
        Script.of("29: one of one, and none of two").does("machine(1, 1); accept(0, 0, true); machine(1, 2)")
                .due("acceptShare()", 1.0f / 3.0f).end();
        Script.of("29: states to which no word leads count").does("machine(1, 7); accept(0, 6, true)")
                .due("acceptShare()", 1.0f / 7.0f).does("accept(0, 6, false)").due("acceptShare()", 0.0f).end();
        Script all = Script.of("29: 6 machines of 8 states");
        for (int machine = 0; machine < 6; machine++) {
            all.machine(1, RING, machine == 5 ? "1234567" : "01234567");
        }
        all.due("acceptShare()", 47.0f / 48.0f).does("accept(5, 0, true)").due("acceptShare()", 1.0f).end();
        Script.of("29: merged machines count, what learners made does not").does("machine(1, 2); learner(0, true)")
                .due("step(0)", "d").due("acceptShare()", 0.0f).examples("- a+").due("merge(1)", 1)
                .due("acceptShare()", 0.25f).end();
    }

    private static void meanAsked() {
        Script.of("30: throws if there are none").refused("meanAsked()", DIVISION).does("machine(3, 8)")
                .refused("meanAsked()", DIVISION).end();
        Script.of("30: a learner that asked nothing").does("machine(3, 8); learner(0, true)")
                .due("meanAsked()", 0.0).end();
        Script.of("30: three learners").does("machine(3, 1); machine(1, 1)")
                .does("learner(0, true); learner(1, true); learner(1, false); step(0); step(1); check(2)")
                .due("asked(0)", 4).due("asked(1)", 2).due("asked(2)", 1).due("meanAsked()", 7.0 / 3.0).end();
        Script.of("30: four learners, checked words each time").does("machine(1, 1); learner(0, true)")
                .does("learner(0, true); learner(0, true); learner(0, true); check(3); check(3); check(3)")
                .due("meanAsked()", 0.75).end();
        Script.of("30: questions whether machines are the same do not count").does("machine(1, 1); learner(0, true)")
                .due("step(0)", "d").due("compared(0)", 1).due("meanAsked()", 2.0).end();
    }

    private static void isSound() {
        Script.of("31: machines that are the same").machine(1, RING, "37").machine(1, "1 2 3 0", "3")
                .due("areSame(0, 1)", true).due("isSound()", true).end();
        Script.of("31: machines that are not the same").machine(1, RING, "37").machine(1, "1 2 3 0", "2")
                .due("areSame(0, 1)", false).due("isSound()", true).end();
        Script.of("31: machines that differ by a word of 14 letters").machine(1, RING, "0123456")
                .machine(1, "1 2 3 4 5 6 7 1", "0123456").due("isSound()", true).end();
        Script.of("31: machines that have not as many letters").does("machine(1, 8); machine(2, 1); machine(3, 8)")
                .does("accept(1, 0, true)").due("isSound()", true).end();
        Script.of("31: letters that one of two machines has not").machine(2, "01 11", "1").does("machine(1, 1)")
                .due("isSound()", true).end();
        Script six = Script.of("31: 6 machines of 8 states");
        for (int machine = 0; machine < 6; machine++) {
            six.machine(1, RING, "0123456".substring(machine));
        }
        six.due("isSound()", true).end();
    }

    private static void isSoundOfLearners() {
        Script.of("31: a learner that is not done").machine(1, "1 2 0", "2").does("learner(0, false)")
                .due("isSound()", true).due("step(0)", "e").due("isSound()", true).end();
        Script.of("31: a learner that is done").machine(1, "1 2 0", "2").does("learner(0, false)")
                .due("step(0)", "e c c d").due("least(0)", 3).due("rows(0)", 3).due("isSound()", true).end();
        Script.of("31: a learner that is done, and whose machine changed").machine(1, "1 2 0", "2")
                .does("learner(0, false)").due("step(0)", "e c c d").does("accept(0, 2, false)").due("least(0)", 1)
                .due("rows(0)", 3).due("isSound()", true).end();
        Script.of("31: a machine that changed before its learner was done").machine(1, "1 0", "1")
                .does("learner(0, false)").due("step(0)", "c").does("accept(0, 1, false)").due("step(0)", "e c")
                .due("isSound()", true).end();
        Script.of("31: a machine that changed there and back").does("machine(1, 1); learner(0, true)")
                .does("accept(0, 0, true)").due("step(0)", "d").does("accept(0, 0, false)").due("isSound()", true)
                .end();
        // The learner keeps answers of two machines, so that it has more rows than the least machine has states.
        Script.of("31: a machine that changed there and back, and more rows than states").machine(1, "0", "")
                .does("learner(0, false); accept(0, 0, true)").due("check(0)", 0).does("accept(0, 0, false)")
                .due("step(0)", "c").due("isSound()", true).does("accept(0, 0, true)").due("isSound()", true)
                .does("check(0)").due("rows(0)", 1).due("step(0)", "d").due("isSound()", true).end();
        Script.of("31: a change that leaves all as it was").machine(1, "1 2 0", "2").does("learner(0, false)")
                .due("step(0)", "e c c d").does("accept(0, 2, true); lead(0, 0, a, 1)").due("isSound()", true).end();
        Script.of("31: a machine that changed to one that is the same, with as many rows")
                .machine(1, "1 2 0 0", "2").does("learner(0, false)").due("step(0)", "e c c d")
                .does("lead(0, 3, a, 1); accept(0, 3, true)").due("isSound()", true).end();
        Script.of("31: a learner that checked after its machine changed").machine(1, "1 2 0", "2")
                .does("learner(0, false)").due("step(0)", "e c c d").does("accept(0, 2, false); check(0)")
                .due("step(0)", "d").due("rows(0)", 1).due("isSound()", true).end();
    }
}
