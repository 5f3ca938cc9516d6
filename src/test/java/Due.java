/** What a test says of the answers: it prints each that is not due, and ends the program accordingly. */
final class Due {
    interface Call {
        Object make();
    }

    private static int wrong;

    private Due() {
    }

    /** Says what a call is to answer; chars and booleans are written as they are. */
    static void is(String call, Object due, Object got) {
        if (!String.valueOf(due).equals(String.valueOf(got))) {
            wrong++;
            System.out.println(call + " answered " + got + ", due is " + due);
        }
    }

    /** Says which exception a call is to throw, and that what can be seen of the school stays as it was. */
    static void fails(LearnHall hall, Class<? extends RuntimeException> due, String name, Call call) {
        String before = View.of(hall);
        is(name, "throws." + due.getSimpleName(), answerOf(call));
        is("what can be seen after " + name, before, View.of(hall));
    }

    static String answerOf(Call call) {
        try {
            return String.valueOf(call.make());
        } catch (RuntimeException e) {
            return "throws." + e.getClass().getSimpleName();
        }
    }

    static void end() {
        if (wrong > 0) {
            System.exit(1);
        }
    }
}
