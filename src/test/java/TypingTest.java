/** Promises 12 to 15. */
public final class TypingTest {
    private static final Class<IndexOutOfBoundsException> INDEX = IndexOutOfBoundsException.class;
    private static final Class<IllegalArgumentException> ARGUMENT = IllegalArgumentException.class;

    public static void main(String[] args) {
        type();
        clear();
        run();
        accepts();
        Due.end();
    }

    private static void type() {
        LearnHall hall = new LearnHall();
        Schools.add(hall, 3, "100 120 222", "");
        for (char letter : new char[] {'d', '`', 'A', ' ', 0, 0xffff}) {
            Due.fails(hall, ARGUMENT, "type of " + (int) letter, () -> hall.type(letter));
        }
        Due.is("type(c)", 1, hall.type('c'));
        Due.is("run by c", 0, hall.run(0));
        Due.is("type(a)", 2, hall.type('a'));
        Due.is("run by ca", 1, hall.run(0));
        Due.is("type(b)", 3, hall.type('b'));
        Due.is("run by cab", 2, hall.run(0));
        for (int length = 4; length <= 12; length++) {
            Due.is("type(a)", length, hall.type('a'));
        }
        Due.fails(hall, IllegalStateException.class, "a 13th letter", () -> hall.type('b'));
        Due.fails(hall, ARGUMENT, "a 13th letter that is none", () -> hall.type('d'));
        Due.is("clear()", 12, hall.clear());
    }

    private static void clear() {
        LearnHall hall = new LearnHall();
        Due.is("clear() of a new one", 0, hall.clear());
        hall.type('b');
        hall.type('b');
        Due.is("clear() of bb", 2, hall.clear());
        Due.is("clear() again", 0, hall.clear());
        Due.is("type(c)", 1, hall.type('c'));
    }

    private static void run() {
        LearnHall hall = new LearnHall();
        Due.fails(hall, INDEX, "run(0) without machines", () -> hall.run(0));
        Schools.add(hall, 2, "12 21 00", "");
        hall.machine(1, 1);
        Due.is("run by the empty word", 0, hall.run(0));
        Schools.type(hall, "bab");
        Due.is("run by bab", 2, hall.run(0));
        Schools.type(hall, "abbbbbbbbbbb");
        Due.is("run by a and eleven b", 1, hall.run(0));
        Due.fails(hall, ARGUMENT, "run of a machine without b", () -> hall.run(1));
        Schools.type(hall, "aaaaaaaaaaac");
        Due.fails(hall, ARGUMENT, "run of a machine without c", () -> hall.run(0));
        Due.fails(hall, INDEX, "run(2)", () -> hall.run(2));
        Due.fails(hall, INDEX, "run(-1)", () -> hall.run(-1));
    }

    private static void accepts() {
        LearnHall hall = new LearnHall();
        Due.fails(hall, INDEX, "accepts(0) without machines", () -> hall.accepts(0));
        Schools.add(hall, 2, "10 10", "1");
        Due.is("accepts of the empty word", false, hall.accepts(0));
        Schools.type(hall, "ba");
        Due.is("accepts of ba", true, hall.accepts(0));
        Schools.type(hall, "bab");
        Due.is("accepts of bab", false, hall.accepts(0));
        Schools.type(hall, "cbaa");
        Due.fails(hall, ARGUMENT, "accepts of cbaa", () -> hall.accepts(0));
        Due.fails(hall, INDEX, "accepts(1)", () -> hall.accepts(1));
        Due.fails(hall, INDEX, "accepts(-1)", () -> hall.accepts(-1));
    }
}
