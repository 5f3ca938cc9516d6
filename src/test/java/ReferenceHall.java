import java.util.ArrayList;
import java.util.HashMap;
import java.util.HashSet;
import java.util.LinkedHashSet;
import java.util.List;
import java.util.Map;
import java.util.NoSuchElementException;
import java.util.Set;
import java.util.TreeMap;
import java.util.TreeSet;

/**
 * The document once more, in its plainest words and with the whole library, so that the answers of LearnHall can be
 * compared with those of a program that shares no way of working with it.
 */
public final class ReferenceHall {
    private static final class Machine {
        final int letters;
        final int[][] to;
        final boolean[] accepts;
        final Set<Pupil> toldOfChange = new HashSet<>();

        Machine(int letters, int states) {
            this.letters = letters;
            to = new int[states][letters];
            accepts = new boolean[states];
            for (int s = 0; s < states; s++) {
                for (int l = 0; l < letters; l++) {
                    to[s][l] = s;
                }
            }
        }

        int end(int from, String word) {
            int at = from;
            for (char c : word.toCharArray()) {
                at = to[at][c - 'a'];
            }
            return at;
        }

        boolean takes(String word) {
            return accepts[end(0, word)];
        }

        void change() {
            for (Pupil pupil : toldOfChange) {
                pupil.didMachineChange = true;
            }
        }
    }

    private static final class Pupil {
        Machine machine;
        boolean isHalving;
        List<String> rows = new ArrayList<>(List.of(""));
        List<String> columns = new ArrayList<>(List.of(""));
        Map<String, Boolean> kept = new HashMap<>();
        int asked;
        int compared;
        boolean isDone;
        boolean didMachineChange;
        Machine made;

        boolean ask(String word) {
            if (!kept.containsKey(word)) {
                kept.put(word, machine.takes(word));
                asked++;
            }
            return kept.get(word);
        }

        String answers(String word) {
            StringBuilder text = new StringBuilder();
            for (String column : columns) {
                text.append(ask(word + column) ? '1' : '0');
            }
            return text.toString();
        }

        int rowWith(String answers) {
            for (int r = 0; r < rows.size(); r++) {
                if (answers(rows.get(r)).equals(answers)) {
                    return r;
                }
            }
            return -1;
        }

        char step() {
            if (isDone) {
                return 'd';
            }
            for (String row : rows) {
                answers(row);
                for (int l = 0; l < machine.letters; l++) {
                    answers(row + (char) ('a' + l));
                }
            }
            for (String row : rows) {
                for (int l = 0; l < machine.letters; l++) {
                    String longer = row + (char) ('a' + l);
                    if (rowWith(answers(longer)) < 0) {
                        rows.add(longer);
                        return 'c';
                    }
                }
            }
            made = new Machine(machine.letters, rows.size());
            for (int r = 0; r < rows.size(); r++) {
                made.accepts[r] = kept.get(rows.get(r));
                for (int l = 0; l < machine.letters; l++) {
                    made.to[r][l] = rowWith(answers(rows.get(r) + (char) ('a' + l)));
                }
            }
            compared++;
            String word = firstWordApart(made, machine);
            if (word == null) {
                isDone = true;
                return 'd';
            }
            if (isHalving) {
                cut(word);
            } else {
                for (int start = word.length(); start >= 0; start--) {
                    addColumn(word.substring(start));
                }
            }
            return 'e';
        }

        void cut(String word) {
            boolean whole = ask(word);
            int low = 0;
            int high = word.length();
            while (low + 1 < high) {
                int middle = (low + high) / 2;
                boolean answer = ask(rows.get(made.end(0, word.substring(0, middle))) + word.substring(middle));
                if (answer == whole) {
                    low = middle;
                } else {
                    high = middle;
                }
            }
            addColumn(word.substring(high));
        }

        void addColumn(String word) {
            if (!columns.contains(word)) {
                columns.add(word);
            }
        }

        int check() {
            int others = 0;
            for (Map.Entry<String, Boolean> entry : kept.entrySet()) {
                boolean now = machine.takes(entry.getKey());
                asked++;
                if (now != entry.getValue()) {
                    others++;
                    entry.setValue(now);
                }
            }
            Set<String> seen = new LinkedHashSet<>();
            List<String> left = new ArrayList<>();
            for (String row : rows) {
                if (seen.add(answers(row))) {
                    left.add(row);
                }
            }
            rows = left;
            isDone = false;
            didMachineChange = false;
            return others;
        }
    }

    private final List<Machine> machines = new ArrayList<>();
    private final List<Pupil> pupils = new ArrayList<>();
    private final Map<String, Boolean> examples = new TreeMap<>();
    private String word = "";

    // ---- machines

    public int machine(int letters, int states) {
        if (letters < 1 || letters > 3 || states < 1 || states > 8) {
            throw new IllegalArgumentException();
        }
        if (machines.size() == 6) {
            throw new IllegalStateException();
        }
        machines.add(new Machine(letters, states));
        return machines.size() - 1;
    }

    public int lead(int machine, int state, char letter, int to) {
        Machine m = machineOf(machine);
        stateOf(m, state);
        stateOf(m, to);
        if (letter < 'a' || letter >= 'a' + m.letters) {
            throw new IllegalArgumentException();
        }
        int old = m.to[state][letter - 'a'];
        m.to[state][letter - 'a'] = to;
        if (old != to) {
            m.change();
        }
        return old;
    }

    public boolean accept(int machine, int state, boolean is) {
        Machine m = machineOf(machine);
        stateOf(m, state);
        boolean old = m.accepts[state];
        m.accepts[state] = is;
        if (old != is) {
            m.change();
        }
        return old;
    }

    public int states(int machine) {
        return machineOf(machine).accepts.length;
    }

    public int least(int machine) {
        return leastOf(machineOf(machine));
    }

    public boolean areSame(int machine, int other) {
        return wordApart(machine, other) == null;
    }

    public int apart(int machine, int other) {
        String found = wordApart(machine, other);
        if (found == null) {
            throw new NoSuchElementException();
        }
        return found.length();
    }

    public char apartAt(int machine, int other, int index) {
        String found = wordApart(machine, other);
        if (found == null || index < 0 || index >= found.length()) {
            throw new NoSuchElementException();
        }
        return found.charAt(index);
    }

    public int together(int machine) {
        Machine m = machineOf(machine);
        Set<Set<Integer>> now = new HashSet<>();
        Set<Integer> all = new TreeSet<>();
        for (int s = 0; s < m.accepts.length; s++) {
            all.add(s);
        }
        now.add(all);
        Set<Set<Integer>> seen = new HashSet<>(now);
        for (int length = 0; !now.isEmpty(); length++) {
            Set<Set<Integer>> next = new HashSet<>();
            for (Set<Integer> set : now) {
                if (set.size() == 1) {
                    return length;
                }
                for (int l = 0; l < m.letters; l++) {
                    Set<Integer> behind = new TreeSet<>();
                    for (int s : set) {
                        behind.add(m.to[s][l]);
                    }
                    if (seen.add(behind)) {
                        next.add(behind);
                    }
                }
            }
            now = next;
        }
        throw new NoSuchElementException();
    }

    public long words(int machine, int length) {
        Machine m = machineOf(machine);
        if (length < 0 || length > 30) {
            throw new IllegalArgumentException();
        }
        return wordsFrom(m, 0, length, new HashMap<>());
    }

    private long wordsFrom(Machine m, int state, int length, Map<Integer, Long> known) {
        if (length == 0) {
            return m.accepts[state] ? 1 : 0;
        }
        Long before = known.get(length * 8 + state);
        if (before != null) {
            return before;
        }
        long sum = 0;
        for (int l = 0; l < m.letters; l++) {
            sum += wordsFrom(m, m.to[state][l], length - 1, known);
        }
        known.put(length * 8 + state, sum);
        return sum;
    }

    // ---- typing

    public int type(char letter) {
        if (letter != 'a' && letter != 'b' && letter != 'c') {
            throw new IllegalArgumentException();
        }
        if (word.length() == 12) {
            throw new IllegalStateException();
        }
        word += letter;
        return word.length();
    }

    public int clear() {
        int old = word.length();
        word = "";
        return old;
    }

    public int run(int machine) {
        Machine m = machineOf(machine);
        wordFor(m);
        return m.end(0, word);
    }

    public boolean accepts(int machine) {
        Machine m = machineOf(machine);
        wordFor(m);
        return m.takes(word);
    }

    // ---- learners

    public int learner(int machine, boolean isHalving) {
        Machine m = machineOf(machine);
        if (pupils.size() == 4) {
            throw new IllegalStateException();
        }
        Pupil pupil = new Pupil();
        pupil.machine = m;
        pupil.isHalving = isHalving;
        m.toldOfChange.add(pupil);
        pupils.add(pupil);
        return pupils.size() - 1;
    }

    public char step(int learner) {
        Pupil p = pupilOf(learner);
        if (!p.isDone && (p.rows.size() >= 20 || p.columns.size() >= 40)) {
            throw new IllegalStateException();
        }
        return p.step();
    }

    public int check(int learner) {
        return pupilOf(learner).check();
    }

    public int rows(int learner) {
        return pupilOf(learner).rows.size();
    }

    public int columns(int learner) {
        return pupilOf(learner).columns.size();
    }

    public int row(int learner, int row) {
        return wordIn(pupilOf(learner).rows, row).length();
    }

    public int column(int learner, int column) {
        return wordIn(pupilOf(learner).columns, column).length();
    }

    public int asked(int learner) {
        return pupilOf(learner).asked;
    }

    public int compared(int learner) {
        return pupilOf(learner).compared;
    }

    public boolean isDone(int learner) {
        return pupilOf(learner).isDone;
    }

    public boolean believes(int learner) {
        Pupil p = pupilOf(learner);
        if (p.made == null) {
            throw new NoSuchElementException();
        }
        wordFor(p.made);
        return p.made.takes(word);
    }

    // ---- examples

    public int example(boolean isAccepted) {
        Boolean old = examples.get(word);
        if (old != null && old != isAccepted) {
            throw new UnsupportedOperationException();
        }
        if (old == null && examples.size() == 24) {
            throw new IllegalStateException();
        }
        examples.put(word, isAccepted);
        return examples.size();
    }

    public int merge(int letters) {
        if (letters < 1 || letters > 3) {
            throw new IllegalArgumentException();
        }
        for (String example : examples.keySet()) {
            for (char c : example.toCharArray()) {
                if (c >= 'a' + letters) {
                    throw new IllegalArgumentException();
                }
            }
        }
        Machine made = merged(letters);
        if (made == null) {
            throw new ArithmeticException();
        }
        if (machines.size() == 6) {
            throw new IllegalStateException();
        }
        machines.add(made);
        return machines.size() - 1;
    }

    // ---- figures

    public float acceptShare() {
        int all = 0;
        int accepting = 0;
        for (Machine m : machines) {
            for (boolean is : m.accepts) {
                all++;
                accepting += is ? 1 : 0;
            }
        }
        if (all == 0) {
            throw new ArithmeticException();
        }
        return (float) accepting / all;
    }

    public double meanAsked() {
        if (pupils.isEmpty()) {
            throw new ArithmeticException();
        }
        double sum = 0;
        for (Pupil p : pupils) {
            sum += p.asked;
        }
        return sum / pupils.size();
    }

    public boolean isSound() {
        for (Pupil p : pupils) {
            if (p.isDone && !p.didMachineChange
                    && (firstWordApart(p.made, p.machine) != null || p.rows.size() != leastOf(p.machine))) {
                return false;
            }
        }
        return true;
    }

    // ---- how it is done

    private Machine machineOf(int number) {
        if (number < 0 || number >= machines.size()) {
            throw new IndexOutOfBoundsException();
        }
        return machines.get(number);
    }

    private Pupil pupilOf(int number) {
        if (number < 0 || number >= pupils.size()) {
            throw new IndexOutOfBoundsException();
        }
        return pupils.get(number);
    }

    private void stateOf(Machine m, int state) {
        if (state < 0 || state >= m.accepts.length) {
            throw new IndexOutOfBoundsException();
        }
    }

    private String wordIn(List<String> list, int place) {
        if (place < 0 || place >= list.size()) {
            throw new IndexOutOfBoundsException();
        }
        return list.get(place);
    }

    private void wordFor(Machine m) {
        for (char c : word.toCharArray()) {
            if (c >= 'a' + m.letters) {
                throw new IllegalArgumentException();
            }
        }
    }

    private String wordApart(int machine, int other) {
        Machine one = machineOf(machine);
        Machine two = machineOf(other);
        if (one.letters != two.letters) {
            throw new IllegalArgumentException();
        }
        return firstWordApart(one, two);
    }

    /** How long the shortest word is that tells each pair of states apart is found backwards, then it is spelt. */
    private static String firstWordApart(Machine one, Machine two) {
        int[][] lengths = new int[one.accepts.length][two.accepts.length];
        for (int s = 0; s < one.accepts.length; s++) {
            for (int t = 0; t < two.accepts.length; t++) {
                lengths[s][t] = one.accepts[s] != two.accepts[t] ? 0 : 1000;
            }
        }
        for (boolean isMoving = true; isMoving;) {
            isMoving = false;
            for (int s = 0; s < one.accepts.length; s++) {
                for (int t = 0; t < two.accepts.length; t++) {
                    for (int l = 0; l < one.letters; l++) {
                        int behind = lengths[one.to[s][l]][two.to[t][l]];
                        if (behind + 1 < lengths[s][t]) {
                            lengths[s][t] = behind + 1;
                            isMoving = true;
                        }
                    }
                }
            }
        }
        if (lengths[0][0] == 1000) {
            return null;
        }
        StringBuilder text = new StringBuilder();
        int s = 0;
        int t = 0;
        while (lengths[s][t] > 0) {
            int l = 0;
            while (lengths[one.to[s][l]][two.to[t][l]] != lengths[s][t] - 1) {
                l++;
            }
            text.append((char) ('a' + l));
            s = one.to[s][l];
            t = two.to[t][l];
        }
        return text.toString();
    }

    /** States that words lead to are told apart by the words of 6 letters at most, as there are at most 8. */
    private static int leastOf(Machine m) {
        Set<Integer> reached = new TreeSet<>();
        for (String beginning : wordsUpTo(m.letters, 7)) {
            reached.add(m.end(0, beginning));
        }
        List<String> endings = wordsUpTo(m.letters, 6);
        Set<String> kinds = new HashSet<>();
        for (int state : reached) {
            StringBuilder kind = new StringBuilder();
            for (String ending : endings) {
                kind.append(m.accepts[m.end(state, ending)] ? '1' : '0');
            }
            kinds.add(kind.toString());
        }
        return kinds.size();
    }

    private static List<String> wordsUpTo(int letters, int length) {
        List<String> all = new ArrayList<>(List.of(""));
        for (int from = 0, l = 0; l < length; l++) {
            int to = all.size();
            for (; from < to; from++) {
                for (int c = 0; c < letters; c++) {
                    all.add(all.get(from) + (char) ('a' + c));
                }
            }
        }
        return all;
    }

    private static int inOrder(String one, String other) {
        return one.length() != other.length() ? one.length() - other.length() : one.compareTo(other);
    }

    /** The merged machine; null if it has more than 8 states. Each state of the tree is known by its word. */
    private Machine merged(int letters) {
        Set<String> tree = new TreeSet<>(ReferenceHall::inOrder);
        tree.add("");
        for (String example : examples.keySet()) {
            for (int length = 0; length <= example.length(); length++) {
                tree.add(example.substring(0, length));
            }
        }
        Map<String, String> name = new HashMap<>();
        for (String w : tree) {
            name.put(w, w);
        }
        List<String> red = new ArrayList<>(List.of(""));
        for (;;) {
            String blue = firstBlue(tree, name, red);
            if (blue == null) {
                break;
            }
            boolean isJoined = false;
            for (String r : red) {
                Map<String, String> tried = joined(tree, name, r, blue);
                if (tried != null) {
                    name = tried;
                    isJoined = true;
                    break;
                }
            }
            if (!isJoined) {
                red.add(blue);
                red.sort(ReferenceHall::inOrder);
            }
        }
        if (red.size() > 8) {
            return null;
        }
        Machine made = new Machine(letters, red.size());
        for (String w : tree) {
            int state = red.indexOf(name.get(w));
            made.accepts[state] |= Boolean.TRUE.equals(examples.get(w));
            if (!w.isEmpty()) {
                String before = w.substring(0, w.length() - 1);
                made.to[red.indexOf(name.get(before))][w.charAt(w.length() - 1) - 'a'] = state;
            }
        }
        return made;
    }

    private static String firstBlue(Set<String> tree, Map<String, String> name, List<String> red) {
        String first = null;
        for (String w : tree) {
            if (!w.isEmpty() && red.contains(name.get(w.substring(0, w.length() - 1))) && !red.contains(name.get(w))
                    && (first == null || inOrder(name.get(w), first) < 0)) {
                first = name.get(w);
            }
        }
        return first;
    }

    /** Joins two states and all that has to be, going over the whole tree again and again; null if it can't be. */
    private Map<String, String> joined(Set<String> tree, Map<String, String> name, String one, String other) {
        Map<String, String> now = new HashMap<>(name);
        rename(now, one, other);
        for (boolean isMoving = true; isMoving;) {
            isMoving = false;
            Map<String, String> behind = new HashMap<>();
            for (String w : tree) {
                if (w.isEmpty()) {
                    continue;
                }
                String from = now.get(w.substring(0, w.length() - 1)) + "/" + w.charAt(w.length() - 1);
                String old = behind.putIfAbsent(from, now.get(w));
                if (old != null && !old.equals(now.get(w))) {
                    rename(now, old, now.get(w));
                    isMoving = true;
                    break;
                }
            }
        }
        Map<String, Boolean> said = new HashMap<>();
        for (Map.Entry<String, Boolean> example : examples.entrySet()) {
            Boolean old = said.putIfAbsent(now.get(example.getKey()), example.getValue());
            if (old != null && !old.equals(example.getValue())) {
                return null;
            }
        }
        return now;
    }

    private static void rename(Map<String, String> name, String one, String other) {
        String first = inOrder(one, other) < 0 ? one : other;
        for (Map.Entry<String, String> entry : name.entrySet()) {
            if (entry.getValue().equals(one) || entry.getValue().equals(other)) {
                entry.setValue(first);
            }
        }
    }
}
