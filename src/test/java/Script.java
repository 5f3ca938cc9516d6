import java.util.ArrayList;
import java.util.List;

/**
 * A run of calls on a new school, for one sentence of the document. A call that is refused, as its row says, must
 * leave all as it was: the run up to there is made again without it, and both schools must answer alike from then on.
 */
final class Script {
    private static final int MAX_CALLS = 512;

    private static final class Row {
        final String call;
        /** What the call is to answer; null if that is not asked for here. */
        final String due;

        Row(String call, String due) {
            this.call = call;
            this.due = due;
        }

        boolean isRefused() {
            return due != null && due.startsWith("throws.");
        }
    }

    private final String sentence;
    private final List<Row> rows = new ArrayList<>();
    private int machines;

    private Script(String sentence) {
        this.sentence = sentence;
    }

    /** Begins a run; the sentence is one of the document, behind the number of its promise. */
    static Script of(String sentence) {
        return new Script(sentence);
    }

    /** Calls without an answer that is due, with ; between them. */
    Script does(String calls) {
        for (String call : calls.split("; ")) {
            rows.add(new Row(call, null));
        }
        return this;
    }

    /** A call and what it is to answer; if several answers are due, with blanks between them, it is made for each. */
    Script due(String call, Object answers) {
        for (String answer : String.valueOf(answers).split(" ")) {
            rows.add(new Row(call, answer));
        }
        return this;
    }

    Script refused(String call, String exception) {
        rows.add(new Row(call, "throws." + exception));
        return this;
    }

    /** Adds a machine by what its letters lead to, state by state, and by the states that accept. */
    Script machine(int letters, String leads, String accepting) {
        String[] states = leads.split(" ");
        does("machine(" + letters + ", " + states.length + ")");
        for (int s = 0; s < states.length; s++) {
            for (int l = 0; l < letters; l++) {
                if (states[s].charAt(l) - '0' != s) {
                    does("lead(" + machines + ", " + s + ", " + (char) ('a' + l) + ", " + states[s].charAt(l) + ")");
                }
            }
        }
        for (char state : accepting.toCharArray()) {
            does("accept(" + machines + ", " + state + ", true)");
        }
        machines++;
        return this;
    }

    /** Clears, and types a word. */
    Script word(String word) {
        does("clear()");
        for (char letter : word.toCharArray()) {
            does("type(" + letter + ")");
        }
        return this;
    }

    /** Keeps examples: words with + or - behind them, with blanks between them. */
    Script examples(String words) {
        for (String word : words.split(" ")) {
            int last = word.length() - 1;
            word(word.substring(0, last)).does("example(" + (word.charAt(last) == '+') + ")");
        }
        return this;
    }

    /** The lengths of all rows of a learner, and of all its columns. */
    Script table(int learner, String rowLengths, String columnLengths) {
        lengths("row", learner, rowLengths.split(" "));
        lengths("column", learner, columnLengths.split(" "));
        return this;
    }

    private void lengths(String name, int learner, String[] lengths) {
        due(name + "s(" + learner + ")", lengths.length);
        for (int i = 0; i < lengths.length; i++) {
            due(name + "(" + learner + ", " + i + ")", lengths[i]);
        }
    }

    /** Where the letters of a machine lead, state by state, and which states accept. */
    Script leads(int machine, String leads, String accepting) {
        String[] states = leads.split(" ");
        due("states(" + machine + ")", states.length);
        for (int s = 0; s < states.length; s++) {
            for (int l = 0; l < states[s].length(); l++) {
                String to = states[s].substring(l, l + 1);
                due("lead(" + machine + ", " + s + ", " + (char) ('a' + l) + ", " + to + ")", to);
            }
            boolean isAccepting = accepting.indexOf('0' + s) >= 0;
            due("accept(" + machine + ", " + s + ", " + isAccepting + ")", isAccepting);
        }
        return this;
    }

    /** Makes the run, and tells each row whose answer is not the one that is due. */
    void end() {
        Due.is(sentence + ": calls beyond " + MAX_CALLS, 0, Math.max(0, rows.size() - MAX_CALLS));
        LearnHall hall = new LearnHall();
        for (int i = 0; i < rows.size(); i++) {
            Row row = rows.get(i);
            String got = Calls.answer(hall, row.call);
            if (row.due != null) {
                Due.is(sentence + ": call " + (i + 1) + ", " + row.call, row.due, got);
            }
            if (row.isRefused()) {
                changesNothing(i);
            }
        }
    }

    private void changesNothing(int place) {
        int left = MAX_CALLS - place - 1;
        List<String> without = Trace.of(after(rows.subList(0, place)), left);
        List<String> with = Trace.of(after(rows.subList(0, place + 1)), left);
        for (int i = 0; i < without.size() && i < with.size(); i++) {
            String call = sentence + ": after the refused call " + rows.get(place).call;
            Due.is(call + ", call " + (i + 1), without.get(i), with.get(i));
        }
        Due.is(sentence + ": calls after a refused one", without.size(), with.size());
    }

    private static LearnHall after(List<Row> rows) {
        LearnHall hall = new LearnHall();
        for (Row row : rows) {
            Calls.answer(hall, row.call);
        }
        return hall;
    }
}
