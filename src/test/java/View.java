/** What can be seen of a school by calls that change nothing. */
final class View {
    private View() {
    }

    static String of(LearnHall hall) {
        StringBuilder text = new StringBuilder();
        int machines = countOf(i -> hall.states(i));
        for (int i = 0; i < machines; i++) {
            int m = i;
            text.append("machine ").append(hall.states(i)).append(' ').append(hall.least(i));
            text.append(' ').append(Due.answerOf(() -> hall.run(m)));
            text.append(' ').append(Due.answerOf(() -> hall.accepts(m)));
            text.append(' ').append(Due.answerOf(() -> hall.together(m)));
            text.append(' ').append(hall.words(i, 0)).append(' ').append(hall.words(i, 7));
            text.append(' ').append(Due.answerOf(() -> hall.apart(0, m))).append('\n');
        }
        int learners = countOf(i -> hall.rows(i));
        for (int i = 0; i < learners; i++) {
            int l = i;
            text.append("learner ").append(hall.asked(i)).append(' ').append(hall.compared(i));
            text.append(' ').append(hall.isDone(i)).append(' ').append(Due.answerOf(() -> hall.believes(l)));
            int rows = hall.rows(i);
            for (int row = 0; row < rows; row++) {
                text.append(' ').append(hall.row(i, row));
            }
            int columns = hall.columns(i);
            for (int column = 0; column < columns; column++) {
                text.append(column == 0 ? " : " : " ").append(hall.column(i, column));
            }
            text.append('\n');
        }
        text.append(Due.answerOf(hall::acceptShare)).append(' ').append(Due.answerOf(hall::meanAsked));
        return text.toString();
    }

    private interface Look {
        int at(int number);
    }

    private static int countOf(Look look) {
        for (int i = 0;; i++) {
            try {
                look.at(i);
            } catch (IndexOutOfBoundsException e) {
                return i;
            }
        }
    }
}
