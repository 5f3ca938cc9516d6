/** Promises 2 to 11, and 'Machines' in 'Terms': a run for each sentence that names an edge. */
public final class EdgesOfMachinesTest {
    private static final String INDEX = "IndexOutOfBoundsException";
    private static final String ARGUMENT = "IllegalArgumentException";
    private static final String STATE = "IllegalStateException";
    private static final String NONE = "NoSuchElementException";

    private static final String RING = "1 2 3 4 5 6 7 0";
    private static final String STAY = "0 1 2 3 4 5 6 7";
    private static final String TAIL_AND_RING = "1 2 3 4 5 6 7 1";

    public static void main(String[] args) {
        machineNumbers();
        lettersAndStates();
        machineIsNew();
        machineIsFull();
        noSuchMachine();
        noSuchState();
        lead();
        leadLetters();
        accept();
        states();
        least();
        leastOfLikeStates();
        areSame();
        apart();
        whichWordIsFirst();
        apartAt();
        together();
        words();
        twoExceptions();
        Due.end();
    }

    private static void machineNumbers() {
        Script.of("2: returns its number, from 0, up to 6 machines").due("machine(1, 1)", "0 1 2 3 4 5").end();
        Script.of("2: merged machines are numbered, too").due("machine(1, 1)", "0 1").due("merge(2)", "2")
                .due("machine(3, 2)", "3").due("states(2)", 1).due("states(3)", 2).end();
    }

    private static void lettersAndStates() {
        for (String letters : new String[] {"1", "2", "3"}) {
            Script.of("2: the number of letters, 1 to 3").due("machine(" + letters + ", 4)", 0).end();
        }
        for (String letters : new String[] {"0", "4", "-1", "2147483647", "-2147483648"}) {
            Script.of("2: throws if the number of letters is out of range")
                    .refused("machine(" + letters + ", 4)", ARGUMENT).due("machine(2, 2)", 0).end();
        }
        for (int states = 1; states <= 8; states++) {
            Script.of("2: the number of states, 1 to 8").due("machine(2, " + states + ")", 0)
                    .due("states(0)", states).end();
        }
        for (String states : new String[] {"0", "9", "-1", "2147483647", "-2147483648"}) {
            Script.of("2: throws if the number of states is out of range")
                    .refused("machine(2, " + states + ")", ARGUMENT).due("machine(2, 2)", 0).end();
        }
        Script.of("2: both numbers out of range").refused("machine(0, 9)", ARGUMENT)
                .refused("machine(4, 0)", ARGUMENT).end();
    }

    private static void machineIsNew() {
        Script.of("2: letters lead from each state to itself, and states do not accept").does("machine(3, 8)")
                .leads(0, "000 111 222 333 444 555 666 777", "").end();
        Script.of("2: one letter, one state").does("machine(1, 1)").leads(0, "0", "").end();
        Script.of("2: a machine is by itself").machine(2, "10 01", "1").does("machine(2, 2)")
                .leads(1, "00 11", "").leads(0, "10 01", "1").end();
    }

    private static void machineIsFull() {
        Script.of("2: throws if there are 6 machines").due("machine(2, 3)", "0 1 2 3 4 5")
                .refused("machine(2, 3)", STATE).refused("machine(1, 1)", STATE).refused("machine(3, 8)", STATE).end();
        Script.of("2: throws if there are 6 machines, merged ones among them").due("machine(2, 3)", "0 1 2 3")
                .due("merge(1)", "4 5").refused("machine(2, 3)", STATE).end();
        Script.of("2: the first one of two exceptions, 6 machines and a number out of range")
                .due("machine(2, 3)", "0 1 2 3 4 5").refused("machine(0, 1)", ARGUMENT)
                .refused("machine(4, 1)", ARGUMENT).refused("machine(1, 0)", ARGUMENT)
                .refused("machine(1, 9)", ARGUMENT).end();
    }

    /** All calls that name a machine: N stands for the number that is none, M for one that is. */
    private static void noSuchMachine() {
        String[] calls = {"3: lead(N, 0, a, 0)", "4: accept(N, 0, true)", "5: states(N)", "6: least(N)",
            "7: areSame(N, M)", "7: areSame(M, N)", "8: apart(N, M)", "8: apart(M, N)", "9: apartAt(N, M, 0)",
            "9: apartAt(M, N, 0)", "10: together(N)", "11: words(N, 1)", "14: run(N)", "15: accepts(N)",
            "16: learner(N, true)"};
        for (String call : calls) {
            String sentence = call.replace("(", ": throws if there is no such machine (");
            String name = call.substring(call.indexOf(' ') + 1);
            for (int machines = 0; machines <= 6; machines += machines == 1 ? 5 : 1) {
                String last = Integer.toString(Math.max(0, machines - 1));
                String[] none = {Integer.toString(machines), "-1", "2147483647", "-2147483648"};
                for (String number : none) {
                    Script script = Script.of(sentence + ", " + machines + " machines");
                    for (int i = 0; i < machines; i++) {
                        script.does("machine(2, 2); accept(" + i + ", 0, true)");
                    }
                    script.refused(name.replace("N", number).replace("M", last), INDEX).end();
                }
            }
        }
        Script.of("5: the last one of 6 machines").due("machine(2, 3)", "0 1 2 3 4 5").due("states(5)", 3)
                .due("lead(5, 2, b, 0)", 2).due("accept(5, 2, true)", false).due("least(5)", 1).end();
    }

    private static void noSuchState() {
        for (int states = 1; states <= 8; states++) {
            String last = Integer.toString(states - 1);
            for (String state : new String[] {Integer.toString(states), "-1", "2147483647", "-2147483648"}) {
                Script.of("3: throws if there is no such state, from which it leads").does("machine(2, " + states + ")")
                        .does("machine(2, 8)").refused("lead(0, " + state + ", a, " + last + ")", INDEX).end();
                Script.of("3: throws if there is no such state, to which it leads").does("machine(2, " + states + ")")
                        .does("machine(2, 8)").refused("lead(0, " + last + ", a, " + state + ")", INDEX).end();
                Script.of("4: throws if there is no such state").does("machine(2, " + states + ")")
                        .does("machine(2, 8)").refused("accept(0, " + state + ", true)", INDEX).end();
            }
            Script.of("3: the last state is one").does("machine(2, " + states + ")")
                    .due("lead(0, " + last + ", b, 0)", last).due("lead(0, " + last + ", b, " + last + ")", 0)
                    .due("accept(0, " + last + ", true)", false).due("accept(0, " + last + ", true)", true).end();
        }
        Script.of("3: both states are none").does("machine(2, 2)").refused("lead(0, 2, a, 2)", INDEX)
                .refused("lead(0, -1, a, -1)", INDEX).end();
    }

    private static void lead() {
        Script.of("3: returns the state to which it led").does("machine(3, 8)").due("lead(0, 3, b, 7)", 3)
                .due("lead(0, 3, b, 0)", 7).due("lead(0, 3, b, 0)", 0).due("lead(0, 3, b, 3)", 0)
                .due("lead(0, 3, b, 3)", 3).end();
        Script.of("3: sets where this letter leads from this state alone").does("machine(3, 3)")
                .does("lead(0, 1, b, 2)").leads(0, "000 121 222", "").end();
    }

    private static void leadLetters() {
        String[][] letters = {{"a"}, {"a", "b"}, {"a", "b", "c"}};
        String[][] none = {{"b", "c"}, {"c", "d"}, {"d", "e"}};
        for (int l = 1; l <= 3; l++) {
            for (String letter : letters[l - 1]) {
                Script.of("3: the letters are the first ones of a, b and c").does("machine(" + l + ", 2)")
                        .due("lead(0, 0, " + letter + ", 1)", "0 1").end();
            }
            for (String letter : none[l - 1]) {
                Script.of("3: throws if it has no such letter").does("machine(" + l + ", 2); machine(3, 2)")
                        .refused("lead(0, 0, " + letter + ", 1)", ARGUMENT).end();
            }
        }
        for (String letter : new String[] {"`", "A", "B", "#0", "#32", "#255", "#353", "#32865", "#65535"}) {
            Script.of("3: throws if it is no letter").does("machine(3, 2)")
                    .refused("lead(0, 0, " + letter + ", 1)", ARGUMENT).end();
        }
        Script.of("3: throws even if it would lead where it leads").does("machine(1, 2)")
                .refused("lead(0, 1, b, 1)", ARGUMENT).end();
    }

    private static void accept() {
        Script.of("4: returns whether it did").does("machine(1, 2)").due("accept(0, 1, false)", false)
                .due("accept(0, 1, true)", "false true").due("accept(0, 1, false)", "true false").end();
        Script.of("4: sets this state alone").does("machine(1, 8); accept(0, 6, true)").leads(0, STAY, "6").end();
        Script.of("4: all states accept").machine(1, RING, "01234567").due("words(0, 30)", 1)
                .due("least(0)", 1).end();
    }

    private static void states() {
        Script.of("5: the number of states, whether words lead to them or not").does("machine(2, 8)")
                .due("states(0)", 8).due("least(0)", 1).end();
        Script.of("5: a machine of one state").does("machine(2, 1)").due("states(0)", 1).end();
    }

    private static void least() {
        Script.of("6: a machine that accepts nothing has one state").does("machine(3, 8)").due("least(0)", 1).end();
        Script.of("6: a machine that accepts all has one state").machine(1, RING, "01234567").due("least(0)", 1).end();
        Script.of("6: one state").does("machine(1, 1)").due("least(0)", 1).end();
        Script.of("6: states to which no word leads do not count").machine(2, "00 12 20", "2").due("least(0)", 1)
                .does("lead(0, 0, b, 1)").due("least(0)", 3).end();
        Script.of("6: the state 0 counts if no letter leads to it").machine(1, "1 1", "1").due("least(0)", 2).end();
        Script.of("6: all 8 states are needed").machine(1, RING, "7").due("least(0)", 8).end();
        Script.of("6: all 8 states of a chain are needed").machine(1, "1 2 3 4 5 6 7 7", "7").due("least(0)", 8).end();
    }

    private static void leastOfLikeStates() {
        Script.of("6: states that accept the same are one").machine(1, RING, "37").due("least(0)", 4)
                .does("accept(0, 1, true); accept(0, 5, true)").due("least(0)", 2).end();
        Script.of("6: the last letter tells states apart").machine(3, "001 110", "").does("accept(0, 1, true)")
                .due("least(0)", 2).end();
    }

    private static void areSame() {
        Script.of("7: a machine is the same as itself").machine(2, "10 01", "1").due("areSame(0, 0)", true).end();
        Script.of("7: machines of 1 and of 8 states that accept nothing").does("machine(3, 1); machine(3, 8)")
                .due("areSame(0, 1)", true).due("areSame(1, 0)", true).end();
        Script.of("7: states to which no word leads tell nothing apart").machine(2, "00 11", "1")
                .does("machine(2, 1)").due("areSame(0, 1)", true).end();
        Script.of("7: the empty word tells them apart").does("machine(1, 1); machine(1, 1); accept(1, 0, true)")
                .due("areSame(0, 1)", false).due("areSame(1, 0)", false).end();
        Script.of("7: words of whatever length: the first one has 14 letters").machine(1, RING, "0123456")
                .machine(1, TAIL_AND_RING, "0123456").due("areSame(0, 1)", false).due("areSame(1, 0)", false).end();
        for (int other = 1; other <= 3; other++) {
            for (int letters = 1; letters <= 3; letters++) {
                Script script = Script.of("7: throws if they have not as many letters")
                        .does("machine(" + letters + ", 1); machine(" + other + ", 1)");
                if (letters == other) {
                    script.due("areSame(0, 1)", true).refused("apart(0, 1)", NONE).end();
                } else {
                    script.refused("areSame(0, 1)", ARGUMENT).refused("apart(0, 1)", ARGUMENT)
                            .refused("apartAt(0, 1, 0)", ARGUMENT).end();
                }
            }
        }
    }

    private static void apart() {
        Script.of("8: throws if they are the same").machine(2, "10 10", "1").machine(2, "12 12 10", "1")
                .refused("apart(0, 1)", NONE).refused("apart(1, 0)", NONE).end();
        Script.of("8: throws for a machine and itself").machine(2, "10 10", "1").refused("apart(0, 0)", NONE).end();
        Script.of("8: the empty word has the length 0").does("machine(1, 1); machine(1, 1); accept(1, 0, true)")
                .due("apart(0, 1)", 0).due("apart(1, 0)", 0).end();
        Script.of("8: one letter").machine(1, "1 1", "1").does("machine(1, 8)").due("apart(0, 1)", 1).end();
        Script.of("8: the longest first word that 16 states can need").machine(1, RING, "0123456")
                .machine(1, TAIL_AND_RING, "0123456").due("apart(0, 1)", 14).due("apart(1, 0)", 14)
                .due("apartAt(0, 1, 13)", "a").refused("apartAt(0, 1, 14)", NONE).end();
        Script.of("8: rings of 8 and of 7").machine(1, RING, "6").machine(1, "1 2 3 4 5 6 0", "6")
                .due("apart(0, 1)", 13).end();
    }

    /** The other machine accepts nothing, so that the first word is the first one that this machine accepts. */
    private static void whichWordIsFirst() {
        Script.of("8: a word is ahead if it is shorter: b is ahead of aa").machine(2, "12 23 33 33", "2")
                .does("machine(2, 1)").due("apart(0, 1)", 1).due("apartAt(0, 1, 0)", "b").end();
        Script.of("9: of the same length, if its first letter is ahead: ab is ahead of ba")
                .machine(2, "12 43 34 44 44", "3").does("machine(2, 1)").due("apart(0, 1)", 2)
                .due("apartAt(0, 1, 0)", "a").due("apartAt(0, 1, 1)", "b").end();
        Script.of("9: of the same length, if its first letter that is another one is ahead: ba is ahead of bb")
                .machine(2, "31 22 33 33", "2").does("machine(2, 1)").due("apart(1, 0)", 2)
                .due("apartAt(1, 0, 0)", "b").due("apartAt(1, 0, 1)", "a").end();
        Script.of("9: the word is the same for both orders").machine(2, "12 43 34 44 44", "3").does("machine(2, 1)")
                .due("apartAt(1, 0, 0)", "a").due("apartAt(1, 0, 1)", "b").end();
        Script.of("9: the last letter is one, too").machine(3, "001 000", "1").does("machine(3, 1)")
                .due("apart(0, 1)", 1).due("apartAt(0, 1, 0)", "c").end();
    }

    private static void apartAt() {
        Script.of("9: throws if they are the same").machine(2, "10 10", "1").machine(2, "12 12 10", "1")
                .refused("apartAt(0, 1, 0)", NONE).refused("apartAt(1, 1, 0)", NONE).end();
        Script.of("9: throws if the word has no such letter").machine(2, "31 22 33 33", "2").does("machine(2, 1)")
                .refused("apartAt(0, 1, 2)", NONE).refused("apartAt(0, 1, -1)", NONE)
                .refused("apartAt(0, 1, 2147483647)", NONE).refused("apartAt(0, 1, -2147483648)", NONE).end();
        Script.of("9: the empty word has no letter").does("machine(2, 1); machine(2, 1); accept(0, 0, true)")
                .refused("apartAt(0, 1, 0)", NONE).refused("apartAt(0, 1, -1)", NONE).end();
        Script.of("9: a word that was found before is forgotten").machine(1, RING, "7").does("machine(1, 1)")
                .due("apart(0, 1)", 7).does("accept(0, 1, true)").refused("apartAt(0, 1, 1)", NONE)
                .does("accept(0, 1, false); accept(0, 7, false)").refused("apartAt(0, 1, 0)", NONE).end();
    }

    private static void together() {
        for (int letters = 1; letters <= 3; letters++) {
            Script.of("10: one state needs no letter").does("machine(" + letters + ", 1)").due("together(0)", 0).end();
            Script.of("10: throws if there is none").does("machine(" + letters + ", 2)")
                    .refused("together(0)", NONE).end();
            Script.of("10: the last letter brings them together").does("machine(" + letters + ", 2)")
                    .does("lead(0, 1, " + (char) ('a' + letters - 1) + ", 0)").due("together(0)", 1).end();
        }
        Script.of("10: a ring stays as wide as it is").machine(1, RING, "7").refused("together(0)", NONE).end();
        Script.of("10: from whichever state, those to which no word leads, too").machine(2, "00 11", "0")
                .refused("together(0)", NONE).does("lead(0, 1, a, 0)").due("together(0)", 1).end();
        Script.of("10: the same state may be any one").machine(1, "1 2 3 4 5 6 7 7", "").due("together(0)", 7).end();
        Script.of("10: the longest word that 8 states can need").machine(2, "10 21 32 43 54 65 76 00", "")
                .due("together(0)", 49).end();
        Script.of("10: the shorter one of two words").machine(3, "100 200 312 313", "").due("together(0)", 2).end();
        Script.of("10: states that accept are as others").machine(1, "1 1", "01").due("together(0)", 1).end();
    }

    private static void words() {
        Script.of("11: the length 0, the empty word").does("machine(2, 2)").due("words(0, 0)", 0)
                .does("accept(0, 0, true)").due("words(0, 0)", 1).end();
        Script.of("11: the length 1").machine(3, "011 111", "1").due("words(0, 1)", 2).end();
        Script.of("11: the length 30, all words of 3 letters").does("machine(3, 8); accept(0, 0, true)")
                .due("words(0, 30)", 205891132094649L).due("words(0, 29)", 68630377364883L).end();
        Script.of("11: the length 30, all words of 2 letters and of 1").does("machine(2, 1); accept(0, 0, true)")
                .does("machine(1, 1); accept(1, 0, true)").due("words(0, 30)", 1L << 30).due("words(1, 30)", 1).end();
        Script.of("11: the length 30, no word").does("machine(3, 8)").due("words(0, 30)", 0).end();
        for (String length : new String[] {"-1", "31", "2147483647", "-2147483648"}) {
            Script.of("11: throws if the length is out of range").does("machine(2, 2)")
                    .refused("words(0, " + length + ")", ARGUMENT).end();
        }
    }

    /** If several exceptions apply, the exception that is listed first is thrown. */
    private static void twoExceptions() {
        Script.of("3: no such machine, and no such letter").does("machine(2, 2)")
                .refused("lead(1, 0, c, 0)", INDEX).refused("lead(-1, 0, d, 9)", INDEX).end();
        Script.of("3: no such state, and no such letter").does("machine(2, 2)")
                .refused("lead(0, 2, c, 0)", INDEX).refused("lead(0, -1, c, 0)", INDEX).end();
        Script.of("3: no such state to which it leads, and no such letter").does("machine(2, 2)")
                .refused("lead(0, 0, c, 2)", INDEX).refused("lead(0, 0, c, -1)", INDEX).end();
        Script.of("9: no such machine, and no such letter").does("machine(2, 2)")
                .refused("apartAt(0, 1, -1)", INDEX).refused("apartAt(1, 0, 99)", INDEX).end();
        Script.of("9: not as many letters, and no such letter").does("machine(2, 2); machine(1, 2)")
                .refused("apartAt(0, 1, -1)", ARGUMENT).refused("apartAt(1, 0, 99)", ARGUMENT).end();
        Script.of("11: no such machine, and a length out of range").does("machine(2, 2)")
                .refused("words(1, 31)", INDEX).refused("words(-1, -1)", INDEX).end();
    }
}
