/** Promises 1, and 29 to 31. */
public final class FiguresTest {
    public static void main(String[] args) {
        aNewObject();
        acceptShare();
        meanAsked();
        isSound();
        Due.end();
    }

    private static void aNewObject() {
        LearnHall other = new LearnHall();
        other.machine(1, 1);
        other.learner(0, true);
        other.type('a');
        other.example(true);
        LearnHall hall = new LearnHall();
        Due.fails(hall, IndexOutOfBoundsException.class, "states(0)", () -> hall.states(0));
        Due.fails(hall, IndexOutOfBoundsException.class, "rows(0)", () -> hall.rows(0));
        Due.fails(hall, ArithmeticException.class, "acceptShare()", hall::acceptShare);
        Due.fails(hall, ArithmeticException.class, "meanAsked()", hall::meanAsked);
        Due.is("isSound()", true, hall.isSound());
        Due.is("clear()", 0, hall.clear());
        Due.is("type(a)", 1, hall.type('a'));
        Due.is("example(false)", 1, hall.example(false));
        Due.is("machine(1, 1)", 0, hall.machine(1, 1));
        Due.is("learner(0, false)", 0, hall.learner(0, false));
        Due.is("states(0) of the other one", 1, other.states(0));
        Due.is("clear() of the other one", 1, other.clear());
    }

    private static void acceptShare() {
        LearnHall hall = new LearnHall();
        Due.fails(hall, ArithmeticException.class, "acceptShare()", hall::acceptShare);
        hall.machine(1, 2);
        Due.is("acceptShare() of none of 2", 0.0f, hall.acceptShare());
        hall.accept(0, 1, true);
        Due.is("acceptShare() of 1 of 2", 0.5f, hall.acceptShare());
        hall.machine(1, 1);
        Due.is("acceptShare() of 1 of 3", 1.0f / 3.0f, hall.acceptShare());
        hall.accept(1, 0, true);
        Due.is("acceptShare() of 2 of 3", 2.0f / 3.0f, hall.acceptShare());
        hall.accept(0, 0, true);
        Due.is("acceptShare() of all", 1.0f, hall.acceptShare());
        hall.learner(0, false);
        hall.step(0);
        Due.is("machines of learners do not count", 1.0f, hall.acceptShare());
        hall.merge(2);
        Due.is("merged machines count", 0.75f, hall.acceptShare());
    }

    private static void meanAsked() {
        LearnHall hall = new LearnHall();
        Due.fails(hall, ArithmeticException.class, "meanAsked()", hall::meanAsked);
        hall.machine(1, 1);
        hall.machine(3, 1);
        Due.fails(hall, ArithmeticException.class, "meanAsked() without learners", hall::meanAsked);
        hall.learner(0, false);
        Due.is("meanAsked() of 0", 0.0, hall.meanAsked());
        hall.step(0);
        Due.is("meanAsked() of 2", 2.0, hall.meanAsked());
        hall.learner(1, false);
        hall.learner(1, true);
        hall.step(1);
        Due.is("meanAsked() of 2, 4 and 0", 2.0, hall.meanAsked());
        hall.check(2);
        Due.is("meanAsked() of 2, 4 and 1", 7.0 / 3.0, hall.meanAsked());
    }

    private static void isSound() {
        LearnHall hall = new LearnHall();
        Schools.add(hall, 2, "10 21 02", "2");
        Schools.add(hall, 2, "10 21 32 43 54 05", "25");
        Schools.add(hall, 2, "10 21 32 43 54 05", "2");
        Schools.add(hall, 1, "1 2 0", "2");
        Due.is("isSound() of machines alone", true, hall.isSound());
        for (int i = 0; i < 4; i++) {
            hall.learner(i, i % 2 == 1);
            for (int k = 0; k < 12; k++) {
                hall.step(i);
                Due.is("isSound() while it is learnt", true, hall.isSound());
            }
            Due.is("isDone", true, hall.isDone(i));
        }
        // A learner that is done is looked at only if its machine did not change, not even there and back.
        hall.accept(1, 0, true);
        Due.is("isSound() after a change", true, hall.isSound());
        hall.check(1);
        hall.step(1);
        hall.accept(1, 0, false);
        Due.is("isSound() after it was changed back", true, hall.isSound());
        thereAndBack();
    }

    private static void thereAndBack() {
        LearnHall hall = new LearnHall();
        hall.machine(1, 1);
        hall.learner(0, false);
        hall.accept(0, 0, true);
        Due.is("step", 'd', hall.step(0));
        hall.accept(0, 0, false);
        Due.is("isSound() when the machine is as it was when the learner began", true, hall.isSound());
        hall.check(0);
        Due.is("step", 'd', hall.step(0));
        Due.is("isSound()", true, hall.isSound());
    }
}
