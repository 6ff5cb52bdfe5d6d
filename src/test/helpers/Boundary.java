import java.io.IOException;
import java.nio.file.Files;
import java.nio.file.Path;
import java.util.TreeSet;
import java.util.function.Supplier;
import java.util.function.ToLongFunction;

/**
 * What the tests of boundary cases share. Each of them says its sentence ahead of its calls, which has to stand in
 * ../shared/DOC.md under that heading: too small, too large, empty, full, a wrap-around, a refused call.
 */
abstract class Boundary {
    static final long NO = Long.MIN_VALUE;
    static final int NONE = -1, BAD = -2, STATE = -3, FULL = -4, NOT_ANY = -5, FINE = -6;
    static final int NOTHING = -11, CAST = -12, PLACE = -13, SIZE = -14;
    static final int MIN = Integer.MIN_VALUE, MAX = Integer.MAX_VALUE;
    private static final TreeSet<Integer> promises = new TreeSet<>();
    private static final String document = documentText();
    private static int wrong = 0;
    private static int looked = 0;
    private static int sentences = 0;
    private static String sentence = "";

    static void end() {
        if (wrong == 0) System.out.println("all " + sentences + " sentences hold, by " + looked + " answers");
        else System.out.println(wrong + " answers are not as due");
        if (wrong != 0) System.exit(1);
    }

    static void eachPromiseHasATest() {
        sentence = "each promise";
        for (int p = 1; p <= 39; p++) due("promise " + p + " has a test", promises.contains(p) ? 1 : 0, 1);
    }

    private static String documentText() {
        try {
            return spaced(Files.readString(Path.of("../shared/DOC.md")).replace("```text", "").replace("```", ""));
        } catch (IOException e) {
            return e.toString();
        }
    }

    static String spaced(String text) {
        return text.replaceAll("\\s+", " ");
    }

    static void terms(String words) {
        sentenceIn("## Terms", "Answers: ", words);
    }

    static void answering(String words) {
        sentenceIn("Answers: ", "The constants: ", words);
    }

    static void promise(int number, String words) {
        promises.add(number);
        sentenceIn("## Promise " + number + ":", number == 39 ? "## Not promised" : "## Promise " + (number + 1) + ":", words);
    }

    /** A sentence that doesn't stand there is a fault of the test. */
    static void sentenceIn(String from, String to, String words) {
        sentences++;
        sentence = from + " " + words;
        String part = document.substring(document.indexOf(from), document.indexOf(to));
        due("the sentence in the document", part.contains(words) ? 1 : 0, 1);
    }

    static void due(String call, long got, long want) {
        looked++;
        if (got == want) return;
        wrong++;
        System.out.println("[" + sentence + "] " + call + " answered " + got + ", due is " + want);
    }

    /** Rows of counts, one behind the other; margins stay 10. */
    static RakeTables table(int rows, int columns, int... counts) {
        RakeTables x = new RakeTables();
        x.size(rows, columns);
        for (int c = 0; c < counts.length; c++) x.tell(c / columns, c % columns, counts[c]);
        return x;
    }

    static RakeTables margins(RakeTables x, int way, int... values) {
        for (int k = 0; k < values.length; k++) x.margin(way, k, values[k]);
        return x;
    }

    /** Marks by cells; three is so, too. */
    static RakeTables marked(RakeTables x, int... marks) {
        int columns = x.told(1);
        for (int c = 0; c < marks.length; c++) x.mark(c / columns, c % columns, marks[c]);
        x.three(true);
        return x;
    }

    static int fitted(RakeTables x, int way, int... values) {
        return margins(x, way, values).fit(way);
    }

    static int text(RakeTables x, String text) {
        for (int p = 0; p < text.length(); p++) x.feed(text.charAt(p));
        return x.read();
    }

    static void cellIs(RakeTables x, int i, int j, long above, long below) {
        due("cell(" + i + ", " + j + ", 0)", x.cell(i, j, 0), above);
        due("cell(" + i + ", " + j + ", 1)", x.cell(i, j, 1), below);
    }

    static void sumIs(RakeTables x, int way, int k, long above, long below) {
        due("sum(" + way + ", " + k + ", 0)", x.sum(way, k, 0), above);
        due("sum(" + way + ", " + k + ", 1)", x.sum(way, k, 1), below);
    }

    static void roundedIs(RakeTables x, int... values) {
        int columns = x.told(1);
        for (int c = 0; c < values.length; c++) {
            due("rounded of cell " + c, x.rounded(c / columns, c % columns), values[c]);
        }
    }

    /** All that can be asked, and what is in the text and in the image; on an object each, so that none has over 512 calls. */
    static String reading(Supplier<RakeTables> made) {
        StringBuilder all = new StringBuilder();
        ask(made.get(), all);
        RakeTables read = made.get();
        all.append(read.read());
        ask(read, all);
        RakeTables undone = made.get();
        all.append(undone.undo());
        ask(undone, all);
        return all.toString();
    }

    static void ask(RakeTables x, StringBuilder all) {
        for (int a = 0; a < 9; a++) all.append(x.told(a)).append(' ').append(x.rank(a)).append(' ');
        for (int a = 0; a < 4; a++) {
            all.append(x.count(a)).append(' ').append(x.after(a)).append(' ').append(x.mean(a)).append(' ');
            all.append(x.cross(0, 1, a, a / 2, 0)).append(' ');
        }
        for (int a = 0; a < 3; a++) {
            for (int b = 0; b < 3; b++) {
                all.append(x.marginOf(a, b)).append(' ').append(x.together(a, b)).append(' ').append(x.rounded(a, b)).append(' ');
                for (int part = 0; part < 2; part++) {
                    all.append(x.of(a, b, part)).append(' ').append(x.cell(a, b, part)).append(' ');
                    all.append(x.sum(a, b, part)).append(' ').append(x.gap(a, b, part)).append(' ');
                    all.append(x.fitting(a, b, part)).append(' ').append(x.odds(a, b, part)).append(' ');
                }
            }
        }
        for (int tape = 0; tape < 6; tape++) {
            all.append(x.judge(tape, 0)).append(' ');
            for (int i : new int[] {0, 1, 2, 3, 59}) all.append(x.peek(tape, i)).append(' ');
        }
        all.append(x.farthest()).append(' ').append(x.orders()).append(' ').append(x.looked()).append('\n');
    }

    static void changesNothing(String call, Supplier<RakeTables> made, ToLongFunction<RakeTables> answer, long want) {
        due(call, answer.applyAsLong(made.get()), want);
        alike(call + " changes nothing", behind(made, answer), made);
    }

    static void alike(String what, Supplier<RakeTables> one, Supplier<RakeTables> other) {
        due(what, reading(one).equals(reading(other)) ? 1 : 0, 1);
    }

    static Supplier<RakeTables> behind(Supplier<RakeTables> made, ToLongFunction<RakeTables> call) {
        return () -> {
            RakeTables x = made.get();
            call.applyAsLong(x);
            return x;
        };
    }

    /** Two rows, two columns, each cell 5 behind one round. */
    static RakeTables rakedOnce() {
        RakeTables x = new RakeTables();
        x.rounds(1);
        return x;
    }

    static void isRaked(String call, RakeTables x) {
        due("rounds behind " + call, x.told(3), 1);
        cellIs(x, 0, 0, 5, 1);
    }

    static void isAnew(String call, RakeTables x) {
        due("rounds behind " + call, x.told(3), 0);
        cellIs(x, 0, 0, 1, 1);
    }

    /**
     * Behind one round the columns' sums are 13, 9, 8 and the rows' 168957/18601, 74445/6688, 529521/54112: none of them
     * is fine, but the first two rows together are. Mark 0 is fine, too.
     */
    static RakeTables rowsTogetherFine() {
        RakeTables x = aheadOfFine();
        x.rounds(1);
        return x;
    }

    static RakeTables aheadOfFine() {
        RakeTables x = marked(table(3, 3, 3, 0, 5, 4, 2, 0, 2, 1, 6), 0, 1, 0, 0, 0, 2, 1, 0, 0);
        x.three(false);
        return margins(margins(x, 0, 12, 7, 11), 1, 13, 9, 8);
    }

    /** Rows fitted; the columns' sums are fine. */
    static RakeTables columnsFine() {
        RakeTables x = table(3, 3, 20, 20, 19, 18, 18, 17, 16, 16, 15);
        fitted(x, 0, 60, 60, 60);
        return x;
    }

    /** Columns fitted; the rows' sums are fine. */
    static RakeTables rowsFine() {
        RakeTables x = table(3, 3, 20, 18, 16, 20, 18, 16, 19, 17, 15);
        fitted(x, 1, 60, 60, 60);
        return x;
    }

    /** Something of all that the image keeps, and the image of it. */
    static RakeTables pictured() {
        RakeTables x = marked(table(2, 3, 1, 3, 2, 2, 1, 3), 0, 1, 2, 2, 1, 0);
        margins(margins(margins(x, 0, 12, 12), 1, 8, 8, 8), 2, 8, 8, 8);
        x.rounds(1);
        x.fit(0);
        x.see(0, 0, 2);
        x.see(1, 2, 6);
        x.event(1, 0);
        x.event(0, 11);
        x.book(0, 0, x.rounded(0, 0));
        x.book(1, 2, 60);
        x.image();
        return x;
    }

    /** Text, seen, events, the book: as many as there can be; a tape of each kind. */
    static RakeTables full() {
        RakeTables x = pictured();
        x.tell(1, 1, 7);
        x.rounds(1);
        for (int n = 2; n < 5; n++) x.see(0, 1, 6);
        for (int n = 2; n < 8; n++) x.event(2, 1);
        for (int n = 2; n < 8; n++) x.book(0, 1, 9);
        for (int n = 0; n < 100; n++) x.feed("n009;x;".charAt(n % 7));
        for (int tape = 0; tape < 5; tape++) {
            x.tape(tape, tape, 3);
            for (int i = 0; i < 3; i++) x.item(tape, i, 5 - i);
        }
        return x;
    }

    static void crossIs(RakeTables x, int i, int k, int j, int l, long above, long below) {
        due("cross above", x.cross(i, k, j, l, 0), above);
        due("cross below", x.cross(i, k, j, l, 1), below);
    }
}
