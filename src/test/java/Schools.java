/** Schools that several tests begin with. */
final class Schools {
    private Schools() {
    }

    /** Adds a machine by what its letters lead to, state by state, and by the states that accept. */
    static int add(LearnHall hall, int letters, String leads, String accepting) {
        String[] states = leads.split(" ");
        int machine = hall.machine(letters, states.length);
        for (int s = 0; s < states.length; s++) {
            for (int l = 0; l < letters; l++) {
                hall.lead(machine, s, (char) ('a' + l), states[s].charAt(l) - '0');
            }
        }
        for (char state : accepting.toCharArray()) {
            hall.accept(machine, state - '0', true);
        }
        return machine;
    }

    static void type(LearnHall hall, String word) {
        hall.clear();
        for (char letter : word.toCharArray()) {
            hall.type(letter);
        }
    }

    static void example(LearnHall hall, String word, boolean isAccepted) {
        type(hall, word);
        hall.example(isAccepted);
    }

    static boolean takes(LearnHall hall, int machine, String word) {
        type(hall, word);
        return hall.accepts(machine);
    }

    static String steps(LearnHall hall, int learner, int count) {
        StringBuilder text = new StringBuilder();
        for (int i = 0; i < count; i++) {
            text.append(hall.step(learner));
        }
        return text.toString();
    }
}
