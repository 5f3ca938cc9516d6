import com.sun.management.ThreadMXBean;
import java.lang.management.ManagementFactory;

/**
 * All calls of one run live in a room of some 600,000 objects and 7.3 million fields and elements. An object takes 16
 * bytes at least and an element one, so that a run which takes less than 7.3 million bytes in all keeps within it.
 */
public final class RoomTest {
    private static final long ROOM = 7_300_000;
    private interface Dear {
        void make(LearnHall hall, int call);
    }

    public static void main(String[] args) {
        // The calls that begin a run are 162 for the machines, 4 more for the learners, and 336 for the examples.
        room("isSound", 350, RoomTest::machines, (hall, call) -> hall.isSound());
        room("least", 350, RoomTest::machines, (hall, call) -> hall.least(call % 6));
        room("together", 350, RoomTest::machines, (hall, call) -> Due.answerOf(() -> hall.together(call % 6)));
        room("apartAt", 350, RoomTest::machines, (hall, call) -> Due.answerOf(() -> hall.apartAt(0, call % 6, 0)));
        room("words", 350, RoomTest::machines, (hall, call) -> hall.words(call % 6, 30));
        room("merge", 176, RoomTest::examples, (hall, call) -> Due.answerOf(() -> hall.merge(3)));
        room("steps that compare", 173, RoomTest::learners, RoomTest::checkAndStep);
        room("steps of machines that change", 115, RoomTest::learners, RoomTest::changeAndStep);
        Due.end();
    }

    private interface Start {
        void make(LearnHall hall);
    }

    private static void room(String name, int calls, Start start, Dear dear) {
        ThreadMXBean threads = (ThreadMXBean) ManagementFactory.getThreadMXBean();
        long before = threads.getThreadAllocatedBytes(Thread.currentThread().getId());
        LearnHall hall = new LearnHall();
        start.make(hall);
        for (int call = 0; call < calls; call++) {
            dear.make(hall, call);
        }
        long taken = threads.getThreadAllocatedBytes(Thread.currentThread().getId()) - before;
        Due.is("a run of " + name + " keeps within the room, with " + taken + " bytes", true, taken < ROOM);
    }

    private static void machines(LearnHall hall) {
        for (int m = 0; m < 6; m++) {
            Schools.add(hall, 3, "123 234 345 456 567 670 701 012", "7" + m);
        }
    }

    private static void examples(LearnHall hall) {
        for (int i = 0; i < 24; i++) {
            StringBuilder word = new StringBuilder();
            for (int k = 0; k < 12; k++) {
                word.append((char) ('a' + (i * 7 + k * k * (i + 1) + i / 3) % 3));
            }
            Schools.type(hall, word.toString());
            Due.answerOf(() -> hall.example(word.toString().hashCode() % 2 == 0));
        }
    }

    private static void learners(LearnHall hall) {
        machines(hall);
        for (int l = 0; l < 4; l++) {
            hall.learner(l, l == 3);
        }
    }

    private static void checkAndStep(LearnHall hall, int call) {
        if (hall.isDone(call % 4)) {
            hall.check(call % 4);
        } else {
            hall.step(call % 4);
        }
    }

    private static void changeAndStep(LearnHall hall, int call) {
        if (call % 3 == 0) {
            hall.lead(0, call * 5 % 8, (char) ('a' + call / 3 % 3), call * call / 7 % 8);
        } else if (hall.isDone(0) || hall.rows(0) == 20) {
            hall.check(0);
        } else {
            Due.answerOf(() -> hall.step(0));
        }
    }
}
