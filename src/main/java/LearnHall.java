import java.util.Arrays;
import java.util.NoSuchElementException;

/** A school where machines are learnt by asking. What each method answers is said in ../shared/DOC.md. */
public final class LearnHall {
    private static final int MAX_MACHINES = 6;
    private static final int MAX_LETTERS = 3;
    private static final int MAX_STATES = 8;
    private static final int MAX_LENGTH = 30;
    private static final int MAX_TYPED = 12;
    private static final int MAX_LEARNERS = 4;
    private static final int MAX_EXAMPLES = 24;

    /** A learner with so many rows or columns takes no more steps until it is done. */
    private static final int FULL_ROWS = 20;
    private static final int FULL_COLUMNS = 40;

    /**
     * A learner's machine has less than FULL_ROWS states when it is compared, so two machines have 27 states at
     * most, and the first word that tells them apart has at most 25 letters: 25 endings join the 39 columns that a
     * learner may have before. Two more are there to spare.
     */
    private static final int MAX_COLUMNS = FULL_COLUMNS + 26;

    private static final int MAX_PAIRS = FULL_ROWS * MAX_STATES;
    private static final int MAX_SETS = 1 << MAX_STATES;
    private static final int MAX_TREE = MAX_EXAMPLES * MAX_TYPED + 1;

    private final Machine[] machines = new Machine[MAX_MACHINES];
    private int machineCount;

    private final int[] typed = new int[MAX_TYPED];
    private int typedLength;

    private final Learner[] learners = new Learner[MAX_LEARNERS];
    private int learnerCount;

    private final int[] exampleNumbers = new int[MAX_EXAMPLES];
    private final boolean[] exampleAccepted = new boolean[MAX_EXAMPLES];
    private int exampleCount;

    // Kept from call to call, since the room for new arrays is counted over all calls.
    private final Comparison comparison = new Comparison();
    private final Parting parting = new Parting();
    private final Gathering gathering = new Gathering();
    private final Merging merging = new Merging();

    public LearnHall() {
    }

    // ---- machines

    public int machine(int letters, int states) throws IllegalArgumentException, IllegalStateException {
        if (letters < 1 || letters > MAX_LETTERS || states < 1 || states > MAX_STATES) {
            throw new IllegalArgumentException("letters or states out of range");
        }
        return addMachine(new Machine(letters, states));
    }

    public int lead(int machine, int state, char letter, int to)
            throws IndexOutOfBoundsException, IllegalArgumentException {
        Machine found = machineAt(machine);
        requireState(found, state);
        requireState(found, to);
        int number = letter - 'a';
        if (!found.hasLetter(number)) {
            throw new IllegalArgumentException("no such letter");
        }
        int before = found.target(state, number);
        found.setTarget(state, number, to);
        return before;
    }

    public boolean accept(int machine, int state, boolean is) throws IndexOutOfBoundsException {
        Machine found = machineAt(machine);
        requireState(found, state);
        boolean before = found.isAccepting(state);
        found.setAccepting(state, is);
        return before;
    }

    public int states(int machine) throws IndexOutOfBoundsException {
        return machineAt(machine).states;
    }

    public int least(int machine) throws IndexOutOfBoundsException {
        return parting.leastStates(machineAt(machine));
    }

    public boolean areSame(int machine, int other) throws IndexOutOfBoundsException, IllegalArgumentException {
        return !findWordApart(machine, other);
    }

    public int apart(int machine, int other)
            throws IndexOutOfBoundsException, IllegalArgumentException, NoSuchElementException {
        if (!findWordApart(machine, other)) {
            throw new NoSuchElementException("the machines are the same");
        }
        return comparison.length;
    }

    public char apartAt(int machine, int other, int index)
            throws IndexOutOfBoundsException, IllegalArgumentException, NoSuchElementException {
        if (!findWordApart(machine, other)) {
            throw new NoSuchElementException("the machines are the same");
        }
        if (index < 0 || index >= comparison.length) {
            throw new NoSuchElementException("the word has no such letter");
        }
        return (char) ('a' + comparison.letterAt(index));
    }

    public int together(int machine) throws IndexOutOfBoundsException, NoSuchElementException {
        int length = gathering.leastLength(machineAt(machine));
        if (length < 0) {
            throw new NoSuchElementException("no word brings all states together");
        }
        return length;
    }

    public long words(int machine, int length) throws IndexOutOfBoundsException, IllegalArgumentException {
        Machine found = machineAt(machine);
        if (length < 0 || length > MAX_LENGTH) {
            throw new IllegalArgumentException("length out of range");
        }
        return found.countWords(length);
    }

    // ---- typing

    public int type(char letter) throws IllegalArgumentException, IllegalStateException {
        int number = letter - 'a';
        if (number < 0 || number >= MAX_LETTERS) {
            throw new IllegalArgumentException("no such letter");
        }
        if (typedLength >= MAX_TYPED) {
            throw new IllegalStateException("the word is full");
        }
        typed[typedLength] = number;
        typedLength++;
        return typedLength;
    }

    public int clear() {
        int before = typedLength;
        typedLength = 0;
        return before;
    }

    public int run(int machine) throws IndexOutOfBoundsException, IllegalArgumentException {
        return runTyped(machineAt(machine));
    }

    public boolean accepts(int machine) throws IndexOutOfBoundsException, IllegalArgumentException {
        Machine found = machineAt(machine);
        return found.isAccepting(runTyped(found));
    }

    // ---- learners

    public int learner(int machine, boolean isHalving) throws IndexOutOfBoundsException, IllegalStateException {
        Machine found = machineAt(machine);
        if (learnerCount >= MAX_LEARNERS) {
            throw new IllegalStateException("no more learners");
        }
        learners[learnerCount] = new Learner(found, isHalving);
        learnerCount++;
        return learnerCount - 1;
    }

    public char step(int learner) throws IndexOutOfBoundsException, IllegalStateException {
        Learner found = learnerAt(learner);
        if (!found.isDone && found.isFull()) {
            throw new IllegalStateException("too many rows or columns");
        }
        return found.advance(comparison);
    }

    public int check(int learner) throws IndexOutOfBoundsException {
        return learnerAt(learner).askAnew();
    }

    public int rows(int learner) throws IndexOutOfBoundsException {
        return learnerAt(learner).rowCount;
    }

    public int columns(int learner) throws IndexOutOfBoundsException {
        return learnerAt(learner).columnCount;
    }

    public int row(int learner, int row) throws IndexOutOfBoundsException {
        Learner found = learnerAt(learner);
        if (row < 0 || row >= found.rowCount) {
            throw new IndexOutOfBoundsException("no such row");
        }
        return found.rowAt(row).length;
    }

    public int column(int learner, int column) throws IndexOutOfBoundsException {
        Learner found = learnerAt(learner);
        if (column < 0 || column >= found.columnCount) {
            throw new IndexOutOfBoundsException("no such column");
        }
        return found.columnAt(column).length;
    }

    public int asked(int learner) throws IndexOutOfBoundsException {
        return learnerAt(learner).asked;
    }

    public int compared(int learner) throws IndexOutOfBoundsException {
        return learnerAt(learner).compared;
    }

    public boolean isDone(int learner) throws IndexOutOfBoundsException {
        return learnerAt(learner).isDone;
    }

    public boolean believes(int learner)
            throws IndexOutOfBoundsException, NoSuchElementException, IllegalArgumentException {
        Machine belief = learnerAt(learner).belief;
        if (belief == null) {
            throw new NoSuchElementException("the learner made no machine");
        }
        return belief.isAccepting(runTyped(belief));
    }

    // ---- examples

    public int example(boolean isAccepted) throws UnsupportedOperationException, IllegalStateException {
        int number = typedNumber();
        int place = exampleOf(number);
        if (place >= 0 && exampleAccepted[place] != isAccepted) {
            throw new UnsupportedOperationException("the example is said to be otherwise");
        }
        if (place < 0) {
            addExample(number, isAccepted);
        }
        return exampleCount;
    }

    public int merge(int letters) throws IllegalArgumentException, ArithmeticException, IllegalStateException {
        if (letters < 1 || letters > MAX_LETTERS || hasExampleBeyond(letters)) {
            throw new IllegalArgumentException("letters out of range, or an example has another one");
        }
        merging.plant(exampleNumbers, exampleAccepted, exampleCount);
        if (merging.mergeStates() > MAX_STATES) {
            throw new ArithmeticException("too many states");
        }
        return addMachine(merging.toMachine(letters));
    }

    // ---- figures

    public float acceptShare() throws ArithmeticException {
        int all = 0;
        int accepting = 0;
        for (int i = 0; i < machineCount; i++) {
            Machine machine = machineAt(i);
            all += machine.states;
            accepting += machine.countAccepting();
        }
        if (all == 0) {
            throw new ArithmeticException("there are no states");
        }
        return (float) accepting / (float) all;
    }

    public double meanAsked() throws ArithmeticException {
        long sum = 0;
        for (int i = 0; i < learnerCount; i++) {
            sum += learnerAt(i).asked;
        }
        if (learnerCount == 0) {
            throw new ArithmeticException("there are no learners");
        }
        return (double) sum / (double) learnerCount;
    }

    public boolean isSound() {
        for (int i = 0; i < learnerCount; i++) {
            if (!isSoundLearner(learnerAt(i))) {
                return false;
            }
        }
        for (int i = 0; i < machineCount; i++) {
            for (int j = i + 1; j < machineCount; j++) {
                if (!isSoundPair(machineAt(i), machineAt(j))) {
                    return false;
                }
            }
        }
        return true;
    }

    // ---- what the methods above share

    private Machine machineAt(int number) {
        Machine found = number >= 0 && number < machineCount ? machines[number] : null;
        if (found == null) {
            throw new IndexOutOfBoundsException("no such machine");
        }
        return found;
    }

    private Learner learnerAt(int number) {
        Learner found = number >= 0 && number < learnerCount ? learners[number] : null;
        if (found == null) {
            throw new IndexOutOfBoundsException("no such learner");
        }
        return found;
    }

    private void requireState(Machine machine, int state) {
        if (!machine.hasState(state)) {
            throw new IndexOutOfBoundsException("no such state");
        }
    }

    private int addMachine(Machine machine) {
        if (machineCount >= MAX_MACHINES) {
            throw new IllegalStateException("no more machines");
        }
        machines[machineCount] = machine;
        machineCount++;
        return machineCount - 1;
    }

    private boolean findWordApart(int machine, int other) {
        Machine one = machineAt(machine);
        Machine two = machineAt(other);
        if (one.letters != two.letters) {
            throw new IllegalArgumentException("the machines have not as many letters");
        }
        return comparison.findWord(one, two);
    }

    private int runTyped(Machine machine) {
        for (int i = 0; i < typedLength && i < MAX_TYPED; i++) {
            if (!machine.hasLetter(typed[i])) {
                throw new IllegalArgumentException("the word has a letter that the machine has not");
            }
        }
        return machine.follow(0, typed, 0, typedLength);
    }

    /** Words are numbered in their order: the empty one is 0, and what is ahead has the smaller number. */
    private static int numberBehind(int number, int letter) {
        return number * MAX_LETTERS + letter + 1;
    }

    private static int numberBefore(int number) {
        return (number - 1) / MAX_LETTERS;
    }

    private static int lastLetter(int number) {
        return (number - 1) % MAX_LETTERS;
    }

    private int typedNumber() {
        int number = 0;
        for (int i = 0; i < typedLength && i < MAX_TYPED; i++) {
            number = numberBehind(number, typed[i]);
        }
        return number;
    }

    private int exampleOf(int number) {
        for (int i = 0; i < exampleCount && i < MAX_EXAMPLES; i++) {
            if (exampleNumbers[i] == number) {
                return i;
            }
        }
        return -1;
    }

    private void addExample(int number, boolean isAccepted) {
        if (exampleCount >= MAX_EXAMPLES) {
            throw new IllegalStateException("no more examples");
        }
        exampleNumbers[exampleCount] = number;
        exampleAccepted[exampleCount] = isAccepted;
        exampleCount++;
    }

    private boolean hasExampleBeyond(int letters) {
        for (int i = 0; i < exampleCount && i < MAX_EXAMPLES; i++) {
            int number = exampleNumbers[i];
            for (int k = 0; k < MAX_TYPED && number > 0; k++) {
                if (lastLetter(number) >= letters) {
                    return true;
                }
                number = numberBefore(number);
            }
        }
        return false;
    }

    private boolean isSoundLearner(Learner learner) {
        if (!learner.isDone || !learner.isUpToDate()) {
            return true;
        }
        if (learner.belief == null || comparison.findWord(learner.belief, learner.machine)) {
            return false;
        }
        return learner.rowCount == parting.leastStates(learner.machine);
    }

    private boolean isSoundPair(Machine one, Machine other) {
        if (one.letters != other.letters) {
            return true;
        }
        return comparison.findWord(one, other) != parting.areInOnePart(one, other);
    }

    /** A machine of the school, or one that a learner made; letters are numbered, 0 for a. */
    static final class Machine {
        final int letters;
        final int states;
        /** How often it changed: a learner compares this with what it was when it began or checked. */
        int changes;
        private final int[] targets = new int[FULL_ROWS * MAX_LETTERS];
        private final boolean[] accepting = new boolean[FULL_ROWS];

        Machine(int letters, int states) {
            this.letters = Math.min(letters, MAX_LETTERS);
            this.states = Math.min(states, FULL_ROWS);
            for (int i = 0; i < targets.length; i++) {
                targets[i] = i / MAX_LETTERS;
            }
        }

        boolean hasState(int state) {
            return state >= 0 && state < states;
        }

        boolean hasLetter(int letter) {
            return letter >= 0 && letter < letters;
        }

        int target(int state, int letter) {
            boolean isThere = state >= 0 && state < states && letter >= 0 && letter < letters;
            return isThere ? targets[state * MAX_LETTERS + letter] : 0;
        }

        void setTarget(int state, int letter, int to) {
            if (hasState(state) && hasLetter(letter) && hasState(to) && target(state, letter) != to) {
                targets[state * MAX_LETTERS + letter] = to;
                changes++;
            }
        }

        boolean isAccepting(int state) {
            return hasState(state) && accepting[state];
        }

        void setAccepting(int state, boolean is) {
            if (hasState(state) && accepting[state] != is) {
                accepting[state] = is;
                changes++;
            }
        }

        int countAccepting() {
            int count = 0;
            for (int state = 0; state < states; state++) {
                count += isAccepting(state) ? 1 : 0;
            }
            return count;
        }

        /** The states to which words lead, a bit for each. */
        int reachedStates() {
            int reached = 1;
            for (int round = 0; round < states; round++) {
                reached |= statesBehind(reached);
            }
            return reached;
        }

        /** The states to which letters lead from the states of a set, a bit for each. */
        private int statesBehind(int set) {
            int behind = 0;
            for (int letter = 0; letter < letters; letter++) {
                behind |= statesBehind(set, letter);
            }
            return behind;
        }

        int statesBehind(int set, int letter) {
            int behind = 0;
            for (int state = 0; state < states; state++) {
                if ((set >> state & 1) == 1) {
                    behind |= 1 << target(state, letter);
                }
            }
            return behind;
        }

        /** The state to which the letters of a word from one place up to another one lead. */
        int follow(int state, int[] word, int from, int to) {
            int at = state;
            for (int i = Math.max(0, from); i < to && i < word.length; i++) {
                at = target(at, word[i]);
            }
            return at;
        }

        long countWords(int length) {
            long[] counts = new long[FULL_ROWS];
            long[] longer = new long[FULL_ROWS];
            for (int state = 0; state < states; state++) {
                counts[state] = isAccepting(state) ? 1 : 0;
            }
            for (int i = 0; i < length; i++) {
                for (int state = 0; state < states; state++) {
                    longer[state] = countBehind(counts, state);
                }
                long[] spare = counts;
                counts = longer;
                longer = spare;
            }
            return counts[0];
        }

        private long countBehind(long[] counts, int state) {
            long sum = 0;
            for (int letter = 0; letter < letters; letter++) {
                int to = target(state, letter);
                sum += to < counts.length ? counts[to] : 0;
            }
            return sum;
        }
    }

    /** The first word that tells two machines apart, found through the pairs of states that a word leads to. */
    static final class Comparison {
        private static final int UNSEEN = -1;

        int length;
        private final int[] word = new int[MAX_PAIRS];
        private final int[] queue = new int[MAX_PAIRS];
        private int queued;
        private final int[] pairBefore = new int[MAX_PAIRS];
        private final int[] letterBefore = new int[MAX_PAIRS];
        private final int[] lengths = new int[MAX_PAIRS];

        int letterAt(int index) {
            return index >= 0 && index < length && index < MAX_PAIRS ? word[index] : 0;
        }

        int[] letters() {
            return word;
        }

        /** Finds the word, if there is one; the second machine has at most MAX_STATES states. */
        boolean findWord(Machine one, Machine other) {
            Arrays.fill(pairBefore, UNSEEN);
            queued = 0;
            reach(0, 0, 0, 0);
            // Pairs are reached in the order of their first words, so the first pair that differs is the one due.
            for (int at = 0; at < queued && at < MAX_PAIRS; at++) {
                int pair = queue[at];
                int state = pair / MAX_STATES;
                int otherState = pair % MAX_STATES;
                if (one.isAccepting(state) != other.isAccepting(otherState)) {
                    spell(pair);
                    return true;
                }
                for (int letter = 0; letter < one.letters; letter++) {
                    int next = one.target(state, letter) * MAX_STATES + other.target(otherState, letter);
                    reach(next, pair, letter, lengths[pair] + 1);
                }
            }
            length = 0;
            return false;
        }

        private void reach(int pair, int before, int letter, int lengthSoFar) {
            if (pair < 0 || pair >= MAX_PAIRS || queued >= MAX_PAIRS || pairBefore[pair] != UNSEEN) {
                return;
            }
            pairBefore[pair] = before;
            letterBefore[pair] = letter;
            lengths[pair] = lengthSoFar;
            queue[queued] = pair;
            queued++;
        }

        private void spell(int last) {
            int pair = last;
            length = Math.min(lengths[pair], MAX_PAIRS);
            for (int i = length - 1; i >= 0 && pair >= 0; i--) {
                word[i] = letterBefore[pair];
                pair = pairBefore[pair];
            }
        }
    }

    /** The states of one machine, or of two, parted until no letter parts them any more. */
    static final class Parting {
        private static final int MAX_BOTH = 2 * MAX_STATES;

        private final int[] targets = new int[MAX_BOTH * MAX_LETTERS];
        private int letters;
        private int count;
        private int[] parts = new int[MAX_BOTH];
        private int[] finer = new int[MAX_BOTH];
        private int partCount;

        int leastStates(Machine machine) {
            count = 0;
            add(machine);
            part();
            return countReachedParts(machine);
        }

        boolean areInOnePart(Machine one, Machine other) {
            count = 0;
            add(one);
            int otherFirst = count;
            add(other);
            part();
            return otherFirst < MAX_BOTH && parts[0] == parts[otherFirst];
        }

        private void add(Machine machine) {
            int first = count;
            letters = machine.letters;
            for (int state = 0; state < machine.states && count < MAX_BOTH; state++) {
                for (int letter = 0; letter < MAX_LETTERS; letter++) {
                    targets[count * MAX_LETTERS + letter] = first + machine.target(state, letter);
                }
                parts[count] = machine.isAccepting(state) ? 1 : 0;
                count++;
            }
        }

        private void part() {
            partCount = 0;
            for (int round = 0; round <= MAX_BOTH; round++) {
                int before = partCount;
                partOnce();
                if (partCount == before) {
                    return;
                }
            }
        }

        private void partOnce() {
            partCount = 0;
            for (int state = 0; state < count && state < MAX_BOTH; state++) {
                int like = firstLike(state);
                if (like < state) {
                    finer[state] = finer[like];
                } else {
                    finer[state] = partCount;
                    partCount++;
                }
            }
            int[] spare = parts;
            parts = finer;
            finer = spare;
        }

        private int firstLike(int state) {
            for (int other = 0; other < state; other++) {
                if (areAlike(other, state)) {
                    return other;
                }
            }
            return state;
        }

        private boolean areAlike(int one, int other) {
            boolean areAlike = parts[one] == parts[other];
            for (int letter = 0; areAlike && letter < letters; letter++) {
                int to = targets[one * MAX_LETTERS + letter];
                int otherTo = targets[other * MAX_LETTERS + letter];
                areAlike = to < MAX_BOTH && otherTo < MAX_BOTH && parts[to] == parts[otherTo];
            }
            return areAlike;
        }

        private int countReachedParts(Machine machine) {
            int reached = machine.reachedStates();
            int counted = 0;
            for (int state = 0; state < count && state < MAX_BOTH; state++) {
                if ((reached >> state & 1) == 1) {
                    counted |= 1 << parts[state];
                }
            }
            return Integer.bitCount(counted);
        }
    }

    /** The least word that brings all states together, found through the sets of states that words lead to. */
    static final class Gathering {
        private static final int UNSEEN = -1;

        private final int[] lengths = new int[MAX_SETS];
        private final int[] queue = new int[MAX_SETS];
        private int queued;

        /** The length of the word; -1 if there is none. */
        int leastLength(Machine machine) {
            Arrays.fill(lengths, UNSEEN);
            queued = 0;
            reach((1 << machine.states) - 1, 0);
            for (int at = 0; at < queued && at < MAX_SETS; at++) {
                int set = queue[at];
                if (Integer.bitCount(set) == 1) {
                    return lengths[set];
                }
                for (int letter = 0; letter < machine.letters; letter++) {
                    reach(machine.statesBehind(set, letter), lengths[set] + 1);
                }
            }
            return -1;
        }

        private void reach(int set, int length) {
            if (set < 0 || set >= MAX_SETS || queued >= MAX_SETS || lengths[set] != UNSEEN) {
                return;
            }
            lengths[set] = length;
            queue[queued] = set;
            queued++;
        }
    }

    /** A row or a column of a learner. */
    static final class Word {
        final int[] letters;
        final int length;

        /** The letters of a row of letters from one place up to another one. */
        Word(int[] from, int start, int end) {
            int last = Math.max(0, Math.min(end, from.length));
            int first = Math.max(0, Math.min(start, last));
            letters = Arrays.copyOfRange(from, first, last);
            length = letters.length;
        }

        Word with(int letter) {
            int[] longer = Arrays.copyOf(letters, length + 1);
            longer[length] = letter;
            return new Word(longer, 0, longer.length);
        }

        boolean isSpelt(int[] from, int start, int end) {
            if (start < 0 || end > from.length || end - start != length) {
                return false;
            }
            for (int i = 0; i < length; i++) {
                if (letters[i] != from[start + i]) {
                    return false;
                }
            }
            return true;
        }
    }

    /**
     * The words that a learner has asked for, with the answers: a tree in which each word is a node behind that of
     * the word without its last letter. A node has four cells: one for what is behind it by each letter, and a note.
     * It grows by pages, since arrays that are copied to grow would be counted anew.
     */
    static final class Memory {
        static final int ROOT = 0;
        static final int UNKNOWN = 0;
        static final int NO = 1;
        static final int YES = 2;

        private static final int NOWHERE = -1;
        private static final int CELLS = MAX_LETTERS + 1;
        private static final int ANSWER_BITS = 2;
        private static final int ANSWER_MASK = 3;
        private static final int PAGE_BITS = 12;
        private static final int PAGE_SIZE = 1 << PAGE_BITS;
        private static final int MAX_PAGES = 1024;
        private static final int MAX_NODES = MAX_PAGES * PAGE_SIZE / CELLS;

        /** How many words are kept. */
        int kept;
        private final int[][] pages = new int[MAX_PAGES][];
        private int nodes = 1;

        /** The node behind another one by a letter, which is made if there is none. */
        int behind(int node, int letter) {
            if (node < 0 || letter < 0 || letter >= MAX_LETTERS) {
                return NOWHERE;
            }
            int found = read(node * CELLS + letter);
            if (found != ROOT) {
                return found;
            }
            if (nodes >= MAX_NODES) {
                return NOWHERE;
            }
            write(node * CELLS + letter, nodes);
            nodes++;
            return nodes - 1;
        }

        int answerAt(int node) {
            return read(node * CELLS + MAX_LETTERS) & ANSWER_MASK;
        }

        /** Keeps the answer for a word that is not kept yet. */
        void keep(int node, int answer) {
            if (node >= 0) {
                write(node * CELLS + MAX_LETTERS, answer);
                kept++;
            }
        }

        /** Asks anew for all words that are kept; returns how many answers are other than they were. */
        int askAnew(Machine machine) {
            int others = 0;
            noteState(ROOT, 0);
            // A node is made later than the one ahead of it, so that its state is noted before its turn comes.
            for (int node = 0; node < nodes && node < MAX_NODES; node++) {
                int state = read(node * CELLS + MAX_LETTERS) >> ANSWER_BITS;
                for (int letter = 0; letter < MAX_LETTERS; letter++) {
                    int next = read(node * CELLS + letter);
                    if (next != ROOT) {
                        noteState(next, machine.target(state, letter));
                    }
                }
                int before = answerAt(node);
                int now = machine.isAccepting(state) ? YES : NO;
                if (before != UNKNOWN && before != now) {
                    write(node * CELLS + MAX_LETTERS, state << ANSWER_BITS | now);
                    others++;
                }
            }
            return others;
        }

        private void noteState(int node, int state) {
            write(node * CELLS + MAX_LETTERS, state << ANSWER_BITS | answerAt(node));
        }

        private int read(int cell) {
            int number = cell >> PAGE_BITS;
            if (number < 0 || number >= MAX_PAGES) {
                return 0;
            }
            int[] page = pages[number];
            return page == null ? 0 : page[cell & (PAGE_SIZE - 1)];
        }

        private void write(int cell, int value) {
            int number = cell >> PAGE_BITS;
            if (number < 0 || number >= MAX_PAGES) {
                return;
            }
            int[] page = pages[number];
            if (page == null) {
                page = new int[PAGE_SIZE];
                pages[number] = page;
            }
            page[cell & (PAGE_SIZE - 1)] = value;
        }
    }

    /** A learner: each step fills its table of answers first, and what follows reads the table alone. */
    static final class Learner {
        /** A row has a line of answers in the table for itself, and one with each letter. */
        private static final int LINES = MAX_LETTERS + 1;
        private static final int TABLE_SIZE = FULL_ROWS * LINES * MAX_COLUMNS;

        final Machine machine;
        int rowCount;
        int columnCount;
        int asked;
        int compared;
        boolean isDone;
        /** The machine that was made last; null as long as there is none. */
        Machine belief;
        private final boolean isHalving;
        private final Word empty = new Word(new int[0], 0, 0);
        private final Word[] rowWords = new Word[FULL_ROWS];
        private final Word[] columnWords = new Word[MAX_COLUMNS];
        private final Memory memory = new Memory();
        private final int[] table = new int[TABLE_SIZE];
        private int changesSeen;

        Learner(Machine machine, boolean isHalving) {
            this.machine = machine;
            this.isHalving = isHalving;
            changesSeen = machine.changes;
            rowWords[0] = empty;
            rowCount = 1;
            columnWords[0] = empty;
            columnCount = 1;
        }

        boolean isFull() {
            return rowCount >= FULL_ROWS || columnCount >= FULL_COLUMNS;
        }

        /** Whether its machine did not change since it began or checked last. */
        boolean isUpToDate() {
            return changesSeen == machine.changes;
        }

        Word rowAt(int row) {
            Word found = row >= 0 && row < rowCount && row < FULL_ROWS ? rowWords[row] : null;
            return found == null ? empty : found;
        }

        Word columnAt(int column) {
            Word found = column >= 0 && column < columnCount && column < MAX_COLUMNS ? columnWords[column] : null;
            return found == null ? empty : found;
        }

        /** Does a step. */
        char advance(Comparison comparison) {
            if (isDone) {
                return 'd';
            }
            askLines(true);
            if (addFirstOpenRow()) {
                return 'c';
            }
            belief = makeMachine();
            compared++;
            if (!comparison.findWord(belief, machine)) {
                isDone = true;
                return 'd';
            }
            if (isHalving) {
                addCutEnding(comparison.letters(), comparison.length);
            } else {
                addEndings(comparison.letters(), comparison.length);
            }
            return 'e';
        }

        /** Checks; returns how many answers are other than they were. */
        int askAnew() {
            asked += memory.kept;
            int others = memory.askAnew(machine);
            changesSeen = machine.changes;
            askLines(false);
            dropRows();
            isDone = false;
            return others;
        }

        private static int lineOf(int row) {
            return row * LINES;
        }

        private static int lineOf(int row, int letter) {
            return row * LINES + 1 + letter;
        }

        /** Fills the table with the answers of all rows, and of all rows with a letter if that is wanted. */
        private void askLines(boolean withLetters) {
            for (int row = 0; row < rowCount; row++) {
                Word word = rowAt(row);
                int node = nodeOf(word);
                int state = machine.follow(0, word.letters, 0, word.length);
                askLine(lineOf(row), node, state);
                for (int letter = 0; withLetters && letter < machine.letters; letter++) {
                    askLine(lineOf(row, letter), memory.behind(node, letter), machine.target(state, letter));
                }
            }
        }

        private int nodeOf(Word word) {
            int node = Memory.ROOT;
            for (int i = 0; i < word.length; i++) {
                node = memory.behind(node, word.letters[i]);
            }
            return node;
        }

        private void askLine(int line, int node, int state) {
            for (int column = 0; column < columnCount; column++) {
                Word ending = columnAt(column);
                int cell = line * MAX_COLUMNS + column;
                if (cell >= 0 && cell < TABLE_SIZE) {
                    table[cell] = ask(node, state, ending.letters, 0, ending.length);
                }
            }
        }

        /** The answer for a word and an ending behind it; the word is known by its node and by its state. */
        private int ask(int wordNode, int wordState, int[] ending, int from, int to) {
            int node = wordNode;
            for (int i = Math.max(0, from); i < to && i < ending.length; i++) {
                node = memory.behind(node, ending[i]);
            }
            int answer = memory.answerAt(node);
            if (answer == Memory.UNKNOWN) {
                boolean isAccepted = machine.isAccepting(machine.follow(wordState, ending, from, to));
                answer = isAccepted ? Memory.YES : Memory.NO;
                memory.keep(node, answer);
                asked++;
            }
            return answer;
        }

        private int answerIn(int line, int column) {
            int cell = line * MAX_COLUMNS + column;
            return cell >= 0 && cell < TABLE_SIZE ? table[cell] : Memory.UNKNOWN;
        }

        private boolean haveSameAnswers(int line, int other) {
            for (int column = 0; column < columnCount; column++) {
                if (answerIn(line, column) != answerIn(other, column)) {
                    return false;
                }
            }
            return true;
        }

        /** The first one of the first rows, up to a bound, that has the answers of a line; the bound if none has. */
        private int firstRowLike(int line, int bound) {
            for (int row = 0; row < bound; row++) {
                if (haveSameAnswers(lineOf(row), line)) {
                    return row;
                }
            }
            return bound;
        }

        private boolean addFirstOpenRow() {
            for (int row = 0; row < rowCount; row++) {
                for (int letter = 0; letter < machine.letters; letter++) {
                    if (firstRowLike(lineOf(row, letter), rowCount) == rowCount) {
                        addRow(rowAt(row).with(letter));
                        return true;
                    }
                }
            }
            return false;
        }

        private void addRow(Word word) {
            if (rowCount < FULL_ROWS) {
                rowWords[rowCount] = word;
                rowCount++;
            }
        }

        private Machine makeMachine() {
            Machine made = new Machine(machine.letters, rowCount);
            for (int row = 0; row < rowCount; row++) {
                made.setAccepting(row, answerIn(lineOf(row), 0) == Memory.YES);
                for (int letter = 0; letter < machine.letters; letter++) {
                    made.setTarget(row, letter, firstRowLike(lineOf(row, letter), rowCount));
                }
            }
            return made;
        }

        private void addEndings(int[] word, int length) {
            for (int start = length; start >= 0; start--) {
                addColumn(word, start, length);
            }
        }

        private void addCutEnding(int[] word, int length) {
            int whole = askPlace(word, 0, length);
            int least = 0;
            int greatest = length;
            for (int i = 0; i < length && greatest - least > 1; i++) {
                int middle = (least + greatest) / 2;
                if (askPlace(word, middle, length) == whole) {
                    least = middle;
                } else {
                    greatest = middle;
                }
            }
            addColumn(word, greatest, length);
        }

        /** The answer for the row to which its machine comes up to a place in a word, with the rest behind it. */
        private int askPlace(int[] word, int place, int length) {
            int row = belief == null ? 0 : belief.follow(0, word, 0, place);
            Word beginning = rowAt(row);
            int state = machine.follow(0, beginning.letters, 0, beginning.length);
            return ask(nodeOf(beginning), state, word, place, length);
        }

        private void addColumn(int[] word, int start, int end) {
            for (int column = 0; column < columnCount; column++) {
                if (columnAt(column).isSpelt(word, start, end)) {
                    return;
                }
            }
            if (columnCount < MAX_COLUMNS) {
                columnWords[columnCount] = new Word(word, start, end);
                columnCount++;
            }
        }

        private void dropRows() {
            int left = 0;
            for (int row = 0; row < rowCount && row < FULL_ROWS; row++) {
                if (firstRowLike(lineOf(row), row) == row) {
                    rowWords[left] = rowWords[row];
                    left++;
                }
            }
            rowCount = left;
        }
    }

    /** The states of the tree of examples, some of them joined: each group is called by its first state. */
    static final class Joined {
        private static final int ACCEPTED = 1;
        private static final int REFUSED = 2;
        private static final int MAX_LINKS = MAX_TREE * MAX_LETTERS;

        private int count;
        private final int[] names = new int[MAX_TREE];
        private final int[] links = new int[MAX_LINKS];
        private final int[] said = new int[MAX_TREE];
        // Each join of two groups leaves at most one more pair for each letter.
        private final int[] pairs = new int[2 * (MAX_LINKS + 1)];
        private int pending;

        void startWith(int states) {
            count = Math.max(0, Math.min(states, MAX_TREE));
            for (int i = 0; i < count; i++) {
                names[i] = i;
                said[i] = 0;
            }
            Arrays.fill(links, 0);
        }

        void copyOf(Joined other) {
            count = other.count;
            System.arraycopy(other.names, 0, names, 0, count);
            System.arraycopy(other.links, 0, links, 0, count * MAX_LETTERS);
            System.arraycopy(other.said, 0, said, 0, count);
        }

        void say(int state, boolean isAccepted) {
            if (state >= 0 && state < MAX_TREE) {
                said[state] |= isAccepted ? ACCEPTED : REFUSED;
            }
        }

        boolean isAccepting(int state) {
            return (said[nameOf(state)] & ACCEPTED) != 0;
        }

        void link(int state, int letter, int to) {
            if (state >= 0 && state < MAX_TREE && letter >= 0 && letter < MAX_LETTERS) {
                links[state * MAX_LETTERS + letter] = to;
            }
        }

        /** The name of the group to which a letter leads; 0 if it leads nowhere, or to the first one. */
        int behind(int state, int letter) {
            return nameOf(linkOf(nameOf(state), letter));
        }

        /** Whether a letter leads anywhere: to a state of the tree that has a letter ahead of it, so never to 0. */
        boolean leads(int state, int letter) {
            return linkOf(nameOf(state), letter) != 0;
        }

        int nameOf(int state) {
            int at = Math.max(0, Math.min(state, MAX_TREE - 1));
            for (int i = 0; i < MAX_TREE && names[at] != at; i++) {
                at = Math.max(0, Math.min(names[at], MAX_TREE - 1));
            }
            return at;
        }

        /** Joins two states, and what a same letter leads to; false if one that accepts would be refused. */
        boolean join(int one, int other) {
            pending = 0;
            push(one, other);
            for (int i = 0; i <= MAX_LINKS && pending > 0; i++) {
                pending--;
                int a = nameOf(pairs[2 * pending]);
                int b = nameOf(pairs[2 * pending + 1]);
                if (a != b && !joinNames(Math.min(a, b), Math.max(a, b))) {
                    return false;
                }
            }
            return true;
        }

        private boolean joinNames(int first, int second) {
            said[first] |= said[second];
            if (said[first] == (ACCEPTED | REFUSED)) {
                return false;
            }
            names[second] = first;
            for (int letter = 0; letter < MAX_LETTERS; letter++) {
                int to = linkOf(first, letter);
                int other = linkOf(second, letter);
                if (to == 0) {
                    link(first, letter, other);
                } else if (other != 0) {
                    push(to, other);
                }
            }
            return true;
        }

        private void push(int one, int other) {
            if (2 * pending + 1 < pairs.length) {
                pairs[2 * pending] = one;
                pairs[2 * pending + 1] = other;
                pending++;
            }
        }

        private int linkOf(int state, int letter) {
            int place = state * MAX_LETTERS + letter;
            return place >= 0 && place < MAX_LINKS ? links[place] : 0;
        }
    }

    /** Merges examples: the states of their tree are numbered in the order of their words. */
    static final class Merging {
        private static final int TOO_MANY = MAX_STATES + 1;

        private final int[] tree = new int[MAX_TREE];
        private int treeCount;
        private Joined joined = new Joined();
        private Joined trial = new Joined();
        private final int[] reds = new int[TOO_MANY];
        private int redCount;

        /** Makes the tree of all beginnings of the examples. */
        void plant(int[] numbers, boolean[] accepted, int count) {
            tree[0] = 0;
            treeCount = 1;
            for (int i = 0; i < count && i < numbers.length; i++) {
                int number = numbers[i];
                for (int k = 0; k < MAX_TYPED && number > 0; k++) {
                    insert(number);
                    number = numberBefore(number);
                }
            }
            joined.startWith(treeCount);
            for (int i = 1; i < treeCount && i < MAX_TREE; i++) {
                joined.link(placeOf(numberBefore(tree[i])), lastLetter(tree[i]), i);
            }
            for (int i = 0; i < count && i < numbers.length && i < accepted.length; i++) {
                joined.say(placeOf(numbers[i]), accepted[i]);
            }
        }

        /** Joins what can be joined; returns how many states are left, or more than MAX_STATES if too many are. */
        int mergeStates() {
            reds[0] = 0;
            redCount = 1;
            for (int i = 0; i < MAX_TREE && redCount < TOO_MANY; i++) {
                int next = firstBehindReds();
                if (next == 0) {
                    return redCount;
                }
                if (!joinWithRed(next)) {
                    reds[redCount] = next;
                    redCount++;
                }
            }
            return redCount;
        }

        /** The machine of the states that are left, which are MAX_STATES at most. */
        Machine toMachine(int letters) {
            Machine made = new Machine(letters, redCount);
            for (int state = 0; state < redCount && state < TOO_MANY; state++) {
                made.setAccepting(state, joined.isAccepting(reds[state]));
                for (int letter = 0; letter < letters; letter++) {
                    if (joined.leads(reds[state], letter)) {
                        made.setTarget(state, letter, redOf(joined.behind(reds[state], letter)));
                    }
                }
            }
            return made;
        }

        private int placeOf(int number) {
            int low = 0;
            int high = treeCount;
            // The first place with at least this number; halving ends after a few rounds.
            for (int i = 0; i < MAX_TREE && low < high; i++) {
                int middle = (low + high) / 2;
                if (middle < MAX_TREE && tree[middle] < number) {
                    low = middle + 1;
                } else {
                    high = middle;
                }
            }
            return low;
        }

        private void insert(int number) {
            int place = placeOf(number);
            if (place < 0 || treeCount >= MAX_TREE || place < treeCount && tree[place] == number) {
                return;
            }
            for (int i = treeCount; i > place; i--) {
                tree[i] = tree[i - 1];
            }
            tree[place] = number;
            treeCount++;
        }

        /** The first state that is not red, and to which a letter leads from a red one; 0 if there is none. */
        private int firstBehindReds() {
            int first = 0;
            for (int i = 0; i < redCount && i < TOO_MANY; i++) {
                for (int letter = 0; letter < MAX_LETTERS; letter++) {
                    int next = joined.behind(reds[i], letter);
                    boolean isNew = joined.leads(reds[i], letter) && redOf(next) == redCount;
                    if (isNew && (first == 0 || next < first)) {
                        first = next;
                    }
                }
            }
            return first;
        }

        private boolean joinWithRed(int state) {
            for (int i = 0; i < redCount && i < TOO_MANY; i++) {
                trial.copyOf(joined);
                if (trial.join(reds[i], state)) {
                    Joined spare = joined;
                    joined = trial;
                    trial = spare;
                    return true;
                }
            }
            return false;
        }

        /** The place of a state among the red ones; how many these are if it is none. */
        private int redOf(int state) {
            for (int i = 0; i < redCount && i < TOO_MANY; i++) {
                if (joined.nameOf(reds[i]) == state) {
                    return i;
                }
            }
            return redCount;
        }
    }
}
