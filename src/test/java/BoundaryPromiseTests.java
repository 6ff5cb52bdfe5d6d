import java.util.function.ToLongFunction;

/** The boundary cases of the promises, one behind the other: too small, too large, empty, full, refused. */
public final class BoundaryPromiseTests extends Boundary {
    public static void main(String[] args) {
        promises1to10();
        promises11to18();
        promises19to27();
        promises28to39();
        eachPromiseHasATest();
        end();
    }

    // ---- the promises

    private static void promises1to10() {
        aNewObject();
        sizeRefused();
        sizeEmpties();
        sizeLeavesNothing();
        tellRefused();
        markRefused();
        marginRefused();
        threeWas();
        ofRefused();
        marginOfRefused();
        feedRefused();
        readEmpties();
        readFaults();
    }

    private static void aNewObject() {
        promise(1, "2 ROWS, 2 COLUMNS.");
        RakeTables x = new RakeTables();
        int[] told = {2, 2, 0, 0, 0, 1, 0, 4};
        for (int what = 0; what < 8; what++) due("told(" + what + ")", x.told(what), told[what]);
        for (int what = 0; what < 4; what++) due("count(" + what + ")", x.count(what), 0);
        due("read of nothing", x.read(), -10);
        due("undo", x.undo(), STATE);
    }

    private static void sizeRefused() {
        promise(2, "how many CELLS there are. BAD.");
        for (int n : new int[] {MIN, -3, -1, 0, 4, 5, 256, MAX}) {
            for (int m = 1; m <= 3; m++) {
                due("size(" + n + ", " + m + ")", new RakeTables().size(n, m), BAD);
                due("size(" + m + ", " + n + ")", new RakeTables().size(m, n), BAD);
            }
        }
    }

    private static void sizeEmpties() {
        promise(2, "SEEN, EVENTS, the BOOK are empty then (by a CLAUSE, too)");
        RakeTables x = full();
        due("size as it was", x.size(2, 3), 6);
        for (int what = 0; what < 3; what++) due("count(" + what + ")", x.count(what), 0);
        due("the text stays", x.count(3), 100);
        due("tapes stay", x.peek(3, 0), 5);
        RakeTables clause = pictured();
        due("s23", text(clause, "s23"), 1);
        for (int what = 0; what < 3; what++) due("count(" + what + ")", clause.count(what), 0);
        RakeTables refused = pictured();
        due("s40", text(refused, "s40;s24"), 0);
        refused.size(2, 4);
        for (int what = 0; what < 3; what++) due("count(" + what + ")", refused.count(what), 2);
        due("all counts 1", x.told(7), 6);
        x.size(3, 3);
        x.tell(2, 2, 20);
        x.mark(2, 2, 2);
        x.margin(0, 2, 0);
        x.size(1, 1);
        x.size(3, 3);
        due("a count that was out of sight", x.of(2, 2, 0), 1);
        due("its mark", x.of(2, 2, 1), 0);
        due("its margin", x.marginOf(0, 2), 10);
    }

    private static void sizeLeavesNothing() {
        promise(2, "ROWS, COLUMNS become so many, all COUNTS 1, MARKS 0, MARGINS 10;");
        for (int rows = 1; rows <= 3; rows++) {
            for (int columns = 1; columns <= 3; columns++) {
                final int r = rows;
                final int c = columns;
                alike("as a new one", () -> raked(usedOfNine(), r, c), () -> raked(new RakeTables(), r, c));
            }
        }
    }

    private static RakeTables raked(RakeTables x, int rows, int columns) {
        x.size(rows, columns);
        x.tell(0, columns - 1, 2);
        x.tell(rows - 1, 0, 3);
        x.rounds(1);
        return x;
    }

    /** All of it told and asked once, so that whatever could be left over is there. */
    private static RakeTables usedOfNine() {
        RakeTables x = marked(table(3, 3, 20, 19, 18, 17, 0, 16, 15, 14, 13), 1, 2, 0, 2, 0, 1, 0, 1, 2);
        x.three(false);
        for (int way = 0; way < 3; way++) margins(x, way, 50, 60, 40);
        for (int c = 0; c < 5; c++) x.see(2, 2, 9);
        for (int c = 0; c < 8; c++) x.book(2, 2, 9);
        for (int c = 0; c < 8; c++) x.event(0, 22);
        x.rounded(0, 0);
        x.together(2, 2);
        x.fitting(0, 0, 0);
        x.odds(0, 0, 0);
        x.after(0);
        x.cross(0, 1, 0, 1, 0);
        x.farthest();
        x.orders();
        x.rounds(1);
        x.fit(0);
        return x;
    }

    private static void tellRefused() {
        promise(3, "NONE; BAD.");
        for (int n : new int[] {MIN, -1, 2, 3, MAX}) {
            due("tell(" + n + ", 0, 1)", new RakeTables().tell(n, 0, 1), NONE);
            due("tell(0, " + n + ", 1)", new RakeTables().tell(0, n, 1), NONE);
        }
        for (int n : new int[] {MIN, -1, 21, 256, MAX}) due("tell(0, 0, " + n + ")", new RakeTables().tell(0, 0, n), BAD);
        for (int n = 0; n <= 20; n++) due("tell(0, 0, " + n + ")", new RakeTables().tell(0, 0, n), 1);
        RakeTables x = table(3, 3);
        for (int c = 0; c < 9; c++) due("tell of cell " + c, x.tell(c / 3, c % 3, c + 7), 1);
        for (int c = 0; c < 9; c++) due("what it was", x.tell(c / 3, c % 3, 0), c + 7);
    }

    private static void markRefused() {
        promise(4, "NONE; BAD.");
        for (int n : new int[] {MIN, -1, 2, 3, MAX}) {
            due("mark(" + n + ", 0, 1)", new RakeTables().mark(n, 0, 1), NONE);
            due("mark(0, " + n + ", 1)", new RakeTables().mark(0, n, 1), NONE);
        }
        for (int m : new int[] {MIN, -1, 3, MAX}) due("mark(0, 0, " + m + ")", new RakeTables().mark(0, 0, m), BAD);
        for (int m = 0; m <= 2; m++) due("mark(0, 0, " + m + ")", new RakeTables().mark(0, 0, m), 0);
        RakeTables x = table(3, 3);
        for (int c = 0; c < 9; c++) due("mark of cell " + c, x.mark(c / 3, c % 3, (c + c / 3) % 3), 0);
        for (int c = 0; c < 9; c++) due("what it was", x.mark(c / 3, c % 3, 0), (c + c / 3) % 3);
    }

    private static void marginRefused() {
        promise(5, "NONE: way, k; BAD.");
        for (int way : new int[] {MIN, -1, 3, MAX}) due("margin(" + way + ", 0, 1)", new RakeTables().margin(way, 0, 1), NONE);
        int[] lines = {2, 3, 3};
        for (int way = 0; way < 3; way++) {
            RakeTables x = new RakeTables();
            x.size(2, 3);
            due("the last line", x.margin(way, lines[way] - 1, 1), 10);
            for (int k : new int[] {MIN, -1, lines[way], MAX}) {
                due("margin(" + way + ", " + k + ", 1)", x.margin(way, k, 1), NONE);
            }
            for (int v : new int[] {MIN, -1, 61, MAX}) due("margin(" + way + ", 0, " + v + ")", x.margin(way, 0, v), BAD);
            int was = 10;
            for (int v = 0; v <= 60; v++) {
                due("margin(" + way + ", 0, " + v + ")", x.margin(way, 0, v), was);
                was = v;
            }
        }
    }

    private static void threeWas() {
        promise(6, "THREE becomes so: what it was (1, 0).");
        RakeTables x = new RakeTables();
        boolean[] becomes = {false, true, true, false, false, true};
        int was = 0;
        for (boolean isThree : becomes) {
            due("three", x.three(isThree), was);
            was = isThree ? 1 : 0;
            due("told(2)", x.told(2), was);
        }
    }

    private static void ofRefused() {
        promise(7, "Of a CELL what 0 COUNT, 1 MARK. NONE.");
        RakeTables x = new RakeTables();
        for (int n : new int[] {MIN, -1, 2, 3, MAX}) {
            due("of(" + n + ", 0, 0)", x.of(n, 0, 0), NONE);
            due("of(0, " + n + ", 0)", x.of(0, n, 0), NONE);
            due("of(0, 0, " + n + ")", x.of(0, 0, n), NONE);
        }
        due("count", x.of(0, 0, 0), 1);
        due("mark", x.of(0, 0, 1), 0);
        RakeTables nine = table(3, 3, 0, 20, 1, 19, 2, 18, 3, 17, 4);
        int[] counts = {0, 20, 1, 19, 2, 18, 3, 17, 4};
        for (int c = 0; c < 9; c++) nine.mark(c / 3, c % 3, (c + c / 3) % 3);
        for (int c = 0; c < 9; c++) {
            due("count of cell " + c, nine.of(c / 3, c % 3, 0), counts[c]);
            due("mark of cell " + c, nine.of(c / 3, c % 3, 1), (c + c / 3) % 3);
        }
    }

    private static void marginOfRefused() {
        promise(8, "MARGIN of a LINE of a WAY. NONE.");
        RakeTables x = new RakeTables();
        x.size(1, 2);
        int[] lines = {1, 2, 3};
        for (int way = 0; way < 3; way++) {
            for (int k = 0; k < lines[way]; k++) due("marginOf(" + way + ", " + k + ")", x.marginOf(way, k), 10);
            for (int k : new int[] {MIN, -1, lines[way], MAX}) due("marginOf(" + way + ", " + k + ")", x.marginOf(way, k), NONE);
        }
        for (int way : new int[] {MIN, -1, 3, MAX}) due("marginOf(" + way + ", 0)", x.marginOf(way, 0), NONE);
    }

    private static void feedRefused() {
        promise(9, "A sign (0 .. 127) comes behind THE TEXT's: how many it has. BAD; FULL.");
        RakeTables x = new RakeTables();
        for (int sign : new int[] {MIN, -128, -1, 128, 255, 256, MAX}) due("feed(" + sign + ")", x.feed(sign), BAD);
        due("none has come", x.count(3), 0);
        due("feed(0)", x.feed(0), 1);
        due("feed(127)", x.feed(127), 2);
        for (int n = 3; n <= 100; n++) due("feed", x.feed(n), n);
        for (int sign : new int[] {0, 65, 127}) due("feed(" + sign + ")", x.feed(sign), FULL);
        due("as many", x.count(3), 100);
        RakeTables signs = new RakeTables();
        signs.feed('x' + 128);
        signs.feed('x' - 256);
        due("a refused sign doesn't wrap around", signs.read(), -10);
    }

    private static void readEmpties() {
        promise(10, "THE TEXT, which is empty then (by a FAULT, too), is a set-up:");
        for (String text : new String[] {"x", "s22", "n0099", "x;", "y", "n00"}) {
            RakeTables x = new RakeTables();
            text(x, text);
            due("as many behind " + text, x.count(3), 0);
            due("the first again", x.feed('x'), 1);
            due("read", x.read(), 1);
            due("read of nothing", x.read(), -10);
        }
    }

    private static void readFaults() {
        promise(10, "how many CLAUSES were done; -10 less the FAULT.");
        String twelve = "";
        for (int n = 1; n <= 12; n++) {
            twelve += n > 1 ? ";x" : "x";
            due(n + " clauses", text(new RakeTables(), twelve), n);
            due("a fault behind " + n, text(new RakeTables(), twelve + "q"), -10 - (2 * n - 1));
        }
        due("none of two", text(new RakeTables(), "n0099;n990"), 0);
        due("one of two", text(new RakeTables(), "n0099;n000"), 1);
        due("one of two", text(new RakeTables(), "n000;n0099"), 1);
    }

    private static void promises11to18() {
        beginHad();
        fitRefused();
        fitOtherwise();
        roundsRefused();
        roundsTillThereIsNone();
        cellRefused();
        sumRefused();
        gapRefused();
        farthestLine();
        toldRefused();
    }

    private static void beginHad() {
        promise(11, "The TABLE is the COUNTS, and has had no ROUNDS: how many ROUNDS it had.");
        RakeTables x = margins(margins(table(2, 2, 1, 1, 0, 1), 0, 1, 1), 1, 1, 1);
        due("none at first", x.begin(), 0);
        x.rounds(20);
        x.rounds(3);
        due("behind 23", x.begin(), 23);
        due("none then", x.begin(), 0);
        cellIs(x, 0, 0, 1, 1);
        x.fit(0);
        cellIs(x, 0, 0, 1, 2);
        due("a fit is no round", x.begin(), 0);
        cellIs(x, 0, 0, 1, 1);
    }

    private static void fitRefused() {
        promise(12, "NONE; STATE: by MARKS, not THREE; FINE: there is none.");
        RakeTables x = new RakeTables();
        for (int way : new int[] {MIN, -1, 3, MAX}) due("fit(" + way + ")", x.fit(way), NONE);
        due("not three", x.fit(2), STATE);
        cellIs(x, 0, 0, 1, 1);
        x.three(true);
        due("three", x.fit(2), 4);
        x.three(false);
        due("not three any more", x.fit(2), STATE);
        due("no fit by rows", rowsFine().fit(0), FINE);
        due("no fit by columns", columnsFine().fit(1), FINE);
    }

    private static void fitOtherwise() {
        promise(12, "A FIT by a WAY: how many CELLS are otherwise.");
        RakeTables x = margins(table(3, 3, 1, 2, 3, 0, 2, 4, 0, 0, 0), 0, 6, 6, 6);
        due("none", x.fit(0), 0);
        x.margin(0, 2, 1);
        due("none in a row of 0", x.fit(0), 0);
        x.margin(0, 1, 5);
        due("two, and one of 0", x.fit(0), 2);
        x.margin(0, 0, 5);
        due("three", x.fit(0), 3);
        RakeTables all = table(3, 3);
        due("nine", all.fit(0), 9);
    }

    private static void roundsRefused() {
        promise(13, "ROUNDS, n at most (0 .. 20), till there is none: how many there were. BAD.");
        RakeTables x = margins(margins(table(2, 2, 1, 1, 0, 1), 0, 1, 1), 1, 1, 1);
        for (int n : new int[] {MIN, -1, 21, 256, MAX}) due("rounds(" + n + ")", x.rounds(n), BAD);
        due("none yet", x.told(3), 0);
        due("rounds(0)", x.rounds(0), 0);
        cellIs(x, 0, 1, 1, 1);
        due("rounds(1)", x.rounds(1), 1);
        cellIs(x, 0, 1, 1, 3);
        due("rounds(19)", x.rounds(19), 19);
        cellIs(x, 0, 1, 1, 41);
        due("rounds(20)", x.rounds(20), 20);
        cellIs(x, 0, 1, 1, 81);
        due("in all", x.told(3), 40);
    }

    private static void roundsTillThereIsNone() {
        promise(13, "till there is none: how many there were.");
        RakeTables x = new RakeTables();
        due("one, then nothing is otherwise", x.rounds(20), 1);
        due("none then", x.rounds(20), 0);
        due("in all", x.told(3), 1);
        RakeTables fine = aheadOfFine();
        due("one, then a cell is fine", fine.rounds(20), 1);
        due("none then", fine.rounds(1), 0);
        due("in all", fine.told(3), 1);
        cellIs(fine, 0, 0, 1053, 209);
        due("two at most", margins(margins(table(2, 2, 1, 1, 0, 1), 0, 1, 1), 1, 1, 1).rounds(2), 2);
    }

    private static void cellRefused() {
        promise(14, "part 0 above, 1 below the line, in lowest terms. NO: i, j, part.");
        RakeTables x = margins(table(1, 3, 2, 4, 0), 0, 8);
        for (int n : new int[] {MIN, -1, 3, MAX}) {
            due("cell(" + n + ", 0, 0)", x.cell(n, 0, 0), NO);
            due("cell(0, " + n + ", 0)", x.cell(0, n, 0), NO);
            due("cell(0, 0, " + n + ")", x.cell(0, 0, n), NO);
        }
        due("part 2", x.cell(0, 0, 2), NO);
        due("row 1", x.cell(1, 0, 1), NO);
        x.fit(0);
        cellIs(x, 0, 0, 8, 3);
        cellIs(x, 0, 1, 16, 3);
        cellIs(x, 0, 2, 0, 1);
        x.margin(0, 0, 60);
        x.fit(0);
        cellIs(x, 0, 0, 20, 1);
    }

    private static void noLines(String call, ToLongFunction<int[]> answer) {
        for (int n : new int[] {MIN, -1, 3, MAX}) {
            due(call + " of way " + n, answer.applyAsLong(new int[] {n, 0, 0}), NO);
            for (int way = 0; way < 3; way++) due(call + " of line " + n, answer.applyAsLong(new int[] {way, n, 0}), NO);
            due(call + " of part " + n, answer.applyAsLong(new int[] {0, 0, n}), NO);
        }
        due(call + " of row 1", answer.applyAsLong(new int[] {0, 1, 0}), NO);
        due(call + " of column 2", answer.applyAsLong(new int[] {1, 2, 0}), NO);
        due(call + " of part 2", answer.applyAsLong(new int[] {2, 2, 2}), NO);
    }

    private static void sumRefused() {
        promise(15, "(by MARKS also if not THREE); part likewise. NO: way, k, part; it is FINE.");
        RakeTables x = table(1, 2, 3, 4);
        noLines("sum", a -> x.sum(a[0], a[1], a[2]));
        sumIs(x, 0, 0, 7, 1);
        sumIs(x, 1, 1, 4, 1);
        sumIs(x, 2, 0, 7, 1);
        sumIs(x, 2, 2, 0, 1);
        due("a row's is fine", rowsFine().sum(0, 2, 0), NO);
        due("a row's is fine", rowsFine().sum(0, 2, 1), NO);
        due("a column's is fine", columnsFine().sum(1, 0, 0), NO);
        due("a mark's is fine", rowsTogetherFine().sum(2, 0, 1), NO);
    }

    private static void gapRefused() {
        promise(16, "GAP of a LINE of a WAY; part likewise. NO: way, k, part;");
        RakeTables x = table(1, 2, 3, 4);
        noLines("gap", a -> x.gap(a[0], a[1], a[2]));
        due("a row", x.gap(0, 0, 0), 3);
        due("a column", x.gap(1, 1, 0), 6);
        due("a mark, not three", x.gap(2, 0, 0), 3);
        due("a mark of none", x.gap(2, 2, 0), 10);
        due("below the line", x.gap(2, 2, 1), 1);
        margins(x, 0, 7);
        due("no gap", x.gap(0, 0, 0), 0);
        due("below the line", x.gap(0, 0, 1), 1);
    }

    private static void farthestLine() {
        promise(17, "FARTHEST: 10 times the WAY, and the LINE. FINE: a SUM is.");
        for (int way = 0; way < 3; way++) {
            for (int k = 0; k < 3; k++) {
                RakeTables x = marked(table(3, 3), 0, 1, 2, 0, 1, 2, 0, 1, 2);
                x.margin(way, k, 60);
                due("farthest", x.farthest(), 10 * way + k);
            }
        }
        due("a row's", rowsFine().farthest(), FINE);
        due("a column's", columnsFine().farthest(), FINE);
        RakeTables marks = rowsTogetherFine();
        due("a mark's, not three", marks.farthest(), 1);
        marks.three(true);
        due("a mark's", marks.farthest(), FINE);
    }

    private static void toldRefused() {
        promise(18, "4 SETTLED (1, 0; FINE: a SUM is), 5 POSSIBLE (1, 0), 6 FORBIDS, 7 all COUNTS together. NONE.");
        RakeTables x = table(3, 3, 20, 20, 20, 20, 20, 20, 20, 20, 20);
        for (int what : new int[] {MIN, -1, 8, 9, MAX}) due("told(" + what + ")", x.told(what), NONE);
        due("all counts at most", x.told(7), 180);
        due("of 0", table(1, 1, 0).told(7), 0);
        due("settled", x.told(4), 0);
        due("a row's sum is fine", rowsFine().told(4), FINE);
        due("a column's", columnsFine().told(4), FINE);
        due("a mark's, not three", rowsTogetherFine().told(4), 0);
        due("a mark's, three", behind(Boundary::rowsTogetherFine, y -> y.three(true)).get().told(4), FINE);
    }

    private static void promises19to27() {
        roundedRefused();
        togetherRefused();
        crossRefused();
        ordersRefused();
        rankRefused();
        seeRefused();
        seeEmpties();
        fittingRefused();
        oddsRefused();
        meanRefused();
    }

    private static void roundedRefused() {
        promise(19, "ROUNDED in a CELL. NONE; FINE: there is none.");
        RakeTables x = table(1, 2, 3, 0);
        for (int n : new int[] {MIN, -1, 2, 3, MAX}) {
            due("rounded(" + n + ", 0)", x.rounded(n, 0), NONE);
            due("rounded(0, " + n + ")", x.rounded(0, n), NONE);
        }
        due("behind the last row", x.rounded(1, 1), NONE);
        roundedIs(x, 3, 0);
        for (int c = 0; c < 9; c++) {
            due("by all rows together", rowsTogetherFine().rounded(c / 3, c % 3), FINE);
            due("by rows", rowsFine().rounded(c / 3, c % 3), FINE);
            due("by columns", columnsFine().rounded(c / 3, c % 3), FINE);
        }
    }

    private static void togetherRefused() {
        promise(20, "(by MARKS also if not THREE). NONE; FINE: there is none.");
        RakeTables x = table(1, 2, 3, 4);
        x.mark(0, 1, 2);
        for (int n : new int[] {MIN, -1, 3, MAX}) {
            due("together(" + n + ", 0)", x.together(n, 0), NONE);
            for (int way = 0; way < 3; way++) due("together(" + way + ", " + n + ")", x.together(way, n), NONE);
        }
        due("behind the last row", x.together(0, 1), NONE);
        due("behind the last column", x.together(1, 2), NONE);
        due("a row", x.together(0, 0), 7);
        due("a column", x.together(1, 1), 4);
        int[] marks = {3, 0, 4};
        for (int k = 0; k < 3; k++) due("a mark, not three", x.together(2, k), marks[k]);
        RakeTables high = table(3, 1, 3, 4, 5);
        due("the last row", high.together(0, 2), 5);
        due("all of a column", high.together(1, 0), 12);
        due("all of a mark", high.together(2, 0), 12);
        for (int way = 0; way < 3; way++) {
            for (int k = 0; k < 3; k++) due("there is none", rowsTogetherFine().together(way, k), FINE);
        }
    }

    private static void crossRefused() {
        promise(21, "CROSS; part 0 above, 1 below the line. NO: i, k, j, l, part.");
        RakeTables x = table(2, 3, 1, 2, 3, 4, 5, 6);
        for (int n : new int[] {MIN, -1, 2, 3, MAX}) {
            due("i " + n, x.cross(n, 1, 0, 1, 0), NO);
            due("k " + n, x.cross(0, n, 0, 1, 0), NO);
            due("part " + n, x.cross(0, 1, 0, 1, n), NO);
        }
        for (int n : new int[] {MIN, -1, 3, MAX}) {
            due("j " + n, x.cross(0, 1, n, 1, 0), NO);
            due("l " + n, x.cross(0, 1, 0, n, 0), NO);
        }
        crossIs(x, 0, 1, 0, 1, 5, 8);
        crossIs(x, 0, 1, 0, 2, 1, 2);
        crossIs(x, 1, 0, 2, 0, 1, 2);
        crossIs(x, 1, 0, 0, 2, 2, 1);
    }

    private static void ordersRefused() {
        promise(22, "ORDERS. NO.");
        due("twenty in one cell, nine in another", table(1, 2, 20, 9).orders(), 10015005);
        due("the greatest of two cells", table(1, 2, 20, 20).orders(), 137846528820L);
        due("three cells of twenty", table(1, 3, 20, 20, 20).orders(), NO);
        due("it is asked, whatever was refused", table(1, 2, 20, 9).orders(), 10015005);
    }

    private static void rankRefused() {
        promise(23, "The k-th (from 0) of RANKS: 10 i + j. NONE.");
        for (int cells = 1; cells <= 3; cells++) {
            RakeTables x = new RakeTables();
            x.size(cells, cells);
            for (int k : new int[] {MIN, -1, cells * cells, MAX}) due("rank(" + k + ")", x.rank(k), NONE);
            due("the first", x.rank(0), 0);
            due("the last", x.rank(cells * cells - 1), 11 * (cells - 1));
        }
    }

    private static void seeRefused() {
        promise(24, "NONE: i, j; BAD: n (0 .. 60); FULL: 5.");
        RakeTables x = new RakeTables();
        for (int n : new int[] {MIN, -2, 2, 3, MAX}) due("see(" + n + ", 0, 1)", x.see(n, 0, 1), NONE);
        for (int n : new int[] {MIN, -1, 2, 3, MAX}) due("see(0, " + n + ", 1)", x.see(0, n, 1), NONE);
        for (int n : new int[] {MIN, -1, 61, MAX}) due("see(0, 0, " + n + ")", x.see(0, 0, n), BAD);
        due("none has come", x.count(0), 0);
        int[] numbers = {0, 60, 1, 59, 0};
        for (int n = 0; n < 5; n++) due("see", x.see(1, 1, numbers[n]), n + 1);
        due("full", x.see(0, 0, 0), FULL);
        due("as many", x.count(0), 5);
    }

    private static void seeEmpties() {
        promise(24, "(i -1: none then, 0, whatever the rest is).");
        for (int n : new int[] {MIN, -1, 0, 3, 61, MAX}) {
            RakeTables x = new RakeTables();
            due("emptied ahead of all", x.see(-1, n, n), 0);
            for (int row = 1; row <= 5; row++) x.see(0, 0, 0);
            due("emptied when full", x.see(-1, n, n), 0);
            due("none", x.count(0), 0);
            due("none of them is looked at", x.fitting(1, 1, 0), 21);
            due("the first again", x.see(0, 0, 0), 1);
        }
    }

    private static void fittingRefused() {
        promise(25, "FITTING: what 0 how many, 1 the least; -5. NONE: i, j, what.");
        RakeTables x = table(1, 2, 1, 1);
        for (int n : new int[] {MIN, -1, 2, 3, MAX}) {
            due("fitting(" + n + ", 0, 0)", x.fitting(n, 0, 0), NONE);
            due("fitting(0, " + n + ", 0)", x.fitting(0, n, 0), NONE);
            due("fitting(0, 0, " + n + ")", x.fitting(0, 0, n), NONE);
        }
        due("behind the last row", x.fitting(1, 0, 1), NONE);
        due("how many", x.fitting(0, 0, 0), 21);
        due("the least", x.fitting(0, 0, 1), 0);
        x.see(0, 0, 60);
        due("none: how many", x.fitting(0, 0, 0), 0);
        due("none: the least", x.fitting(0, 0, 1), NOT_ANY);
    }

    private static void oddsRefused() {
        promise(26, "ODDS; part 0 above, 1 below the line. NO: i, j, part.");
        RakeTables x = margins(margins(table(1, 2, 1, 1), 0, 8), 1, 4, 4);
        for (int n : new int[] {MIN, -1, 2, 3, MAX}) {
            due("odds(" + n + ", 0, 0)", x.odds(n, 0, 0), NO);
            due("odds(0, " + n + ", 0)", x.odds(0, n, 0), NO);
            due("odds(0, 0, " + n + ")", x.odds(0, 0, n), NO);
        }
        due("behind the last row", x.odds(1, 0, 1), NO);
        x.tell(0, 1, 0);
        due("above", x.odds(0, 1, 0), 1);
        due("below", x.odds(0, 1, 1), 2);
    }

    private static void meanRefused() {
        promise(27, "MEAN; part likewise. NO.");
        RakeTables x = table(1, 2, 3, 4);
        for (int part : new int[] {MIN, -1, 2, MAX}) due("mean(" + part + ")", x.mean(part), NO);
        due("above", x.mean(0), 7);
        due("below", x.mean(1), 2);
        due("the most there is", table(3, 3, 20, 20, 20, 20, 20, 20, 20, 20, 20).mean(0), 20);
    }

    private static void promises28to39() {
        eventRefused();
        eventEmpties();
        afterRefused();
        bookRefused();
        bookEmpties();
        lookedWithoutRounded();
        judgeRefused();
        imageOfCells();
        undoRefused();
        countRefused();
        tapeRefused();
        tapeAnew();
        tapeOfEachSize();
        itemLowestBits();
        itemRefused();
        peekRefused();
        shiftRefused();
        shiftEnds();
        shiftOntoItself();
        noIsTheLeastLong();
    }

    private static void eventRefused() {
        promise(28, "NONE: what (0 .. 3), CELL, ROW, COLUMN n; BAD: n (by 3: 0 .. 60); FULL: 8.");
        RakeTables x = table(2, 3);
        for (int what : new int[] {MIN, -2, 4, 5, MAX}) due("event(" + what + ", 0)", x.event(what, 0), NONE);
        for (int n : new int[] {MIN, -1, -10, 3, 9, 13, 20, 22, 100, MAX}) due("event(0, " + n + ")", x.event(0, n), NONE);
        for (int n : new int[] {MIN, -1, 2, 10, MAX}) due("event(1, " + n + ")", x.event(1, n), NONE);
        for (int n : new int[] {MIN, -1, 3, 10, MAX}) due("event(2, " + n + ")", x.event(2, n), NONE);
        for (int n : new int[] {MIN, -1, 61, MAX}) due("event(3, " + n + ")", x.event(3, n), BAD);
        due("none has come", x.count(1), 0);
        int[] whats = {0, 0, 0, 1, 1, 2, 3, 3};
        int[] ns = {0, 2, 12, 0, 1, 2, 0, 60};
        for (int e = 0; e < 8; e++) due("event(" + whats[e] + ", " + ns[e] + ")", x.event(whats[e], ns[e]), e + 1);
        for (int what = 0; what < 4; what++) due("full", x.event(what, 0), FULL);
        due("as many", x.count(1), 8);
    }

    private static void eventEmpties() {
        promise(28, "(what -1: none then, 0, whatever the rest is).");
        for (int n : new int[] {MIN, -1, 0, 61, MAX}) {
            RakeTables x = new RakeTables();
            due("emptied ahead of all", x.event(-1, n), 0);
            for (int row = 1; row <= 8; row++) x.event(1, 0);
            due("emptied when full", x.event(-1, n), 0);
            due("none", x.count(1), 0);
            due("none of them happens", x.after(2), 0);
            due("the first again", x.event(1, 0), 1);
        }
    }

    private static void afterRefused() {
        promise(29, "AFTER: what 0 POSSIBLE (1, 0), 1 FORBIDS, 2 MARGINS of ROWS less of COLUMNS. NO.");
        RakeTables x = new RakeTables();
        for (int what : new int[] {MIN, -1, 3, 4, MAX}) due("after(" + what + ")", x.after(what), NO);
        due("possible", x.after(0), 1);
        due("forbids", x.after(1), 0);
        due("less", x.after(2), 0);
        margins(x, 0, 60, 60);
        margins(x, 1, 0, 0);
        due("not possible", x.after(0), 0);
        due("forbids the first", x.after(1), 1);
        due("the most of two rows", x.after(2), 120);
    }

    private static void bookRefused() {
        promise(30, "NONE: i, j; BAD: n (0 .. 60); FULL: 8.");
        RakeTables x = new RakeTables();
        for (int n : new int[] {MIN, -2, 2, 3, MAX}) due("book(" + n + ", 0, 1)", x.book(n, 0, 1), NONE);
        for (int n : new int[] {MIN, -1, 2, 3, MAX}) due("book(0, " + n + ", 1)", x.book(0, n, 1), NONE);
        for (int n : new int[] {MIN, -1, 61, MAX}) due("book(0, 0, " + n + ")", x.book(0, 0, n), BAD);
        due("none has come", x.count(2), 0);
        int[] numbers = {0, 60, 1, 59, 0, 60, 30, 2};
        for (int n = 0; n < 8; n++) due("book", x.book(1, 1, numbers[n]), n + 1);
        due("full", x.book(0, 0, 0), FULL);
        due("as many", x.count(2), 8);
    }

    private static void bookEmpties() {
        promise(30, "(i -1: none then, 0, whatever the rest is).");
        for (int n : new int[] {MIN, -1, 0, 3, 61, MAX}) {
            RakeTables x = new RakeTables();
            due("emptied ahead of all", x.book(-1, n, n), 0);
            for (int row = 1; row <= 8; row++) x.book(0, 0, 0);
            due("otherwise", x.looked(), 0);
            due("emptied when full", x.book(-1, n, n), 0);
            due("none", x.count(2), 0);
            due("none of them is looked at", x.looked(), NOT_ANY);
            due("the first again", x.book(0, 0, 0), 1);
        }
    }

    private static void lookedWithoutRounded() {
        promise(31, "LOOKED at; -5. FINE: there is no ROUNDED.");
        due("an empty book", new RakeTables().looked(), NOT_ANY);
        due("an empty book, no rounded", rowsTogetherFine().looked(), FINE);
        due("a book, no rounded", behind(Boundary::rowsFine, x -> x.book(0, 0, 20)).get().looked(), FINE);
        due("a book, no rounded", behind(Boundary::columnsFine, x -> x.book(0, 0, 1)).get().looked(), FINE);
    }

    private static void judgeRefused() {
        promise(32, "NONE: tape; FINE: there is no ROUNDED; CAST: it is no row of ints.");
        RakeTables x = table(1, 1, 0);
        for (int tape : new int[] {MIN, -1, 6, MAX}) due("judge(" + tape + ", 0)", x.judge(tape, 0), NONE);
        for (int sort = 0; sort <= 4; sort++) {
            for (int n : new int[] {0, 1, 60}) {
                x.tape(sort, sort, n);
                due("sort " + sort + " of " + n, x.judge(sort, 0), sort != 2 ? CAST : n == 0 ? 100 : NOT_ANY);
                due("sort " + sort + ", place -1", x.judge(sort, -1), sort != 2 ? CAST : 100);
                due("sort " + sort + ", place 60", x.judge(sort, 60), sort != 2 ? CAST : 100);
            }
        }
        RakeTables fine = rowsTogetherFine();
        fine.tape(0, 2, 9);
        fine.tape(1, 3, 9);
        for (int tape = 0; tape < 6; tape++) due("no rounded", fine.judge(tape, 0), FINE);
        due("no tape", fine.judge(6, 0), NONE);
    }

    private static void imageOfCells() {
        promise(33, "THE IMAGE is taken: how many CELLS there are.");
        for (int rows = 1; rows <= 3; rows++) {
            for (int columns = 1; columns <= 3; columns++) {
                RakeTables x = new RakeTables();
                x.size(rows, columns);
                due("image", x.image(), rows * columns);
                x.size(4 - rows, columns == 3 ? 1 : 3);
                due("undo", x.undo(), rows * columns);
                due("rows", x.told(0), rows);
                due("columns", x.told(1), columns);
            }
        }
    }

    private static void undoRefused() {
        promise(34, "All is as THE IMAGE: how many CELLS. STATE: there is none.");
        RakeTables x = new RakeTables();
        x.tell(0, 0, 7);
        due("there is none", x.undo(), STATE);
        due("the count stays", x.of(0, 0, 0), 7);
        x.image();
        for (int n = 0; n < 3; n++) {
            x.size(3, 3);
            due("there is one", x.undo(), 4);
            due("the count comes back", x.of(0, 0, 0), 7);
        }
        due("another object has none", new RakeTables().undo(), STATE);
    }

    private static void countRefused() {
        promise(35, "How many: 0 SEEN, 1 EVENTS, 2 of the BOOK, 3 bytes of THE TEXT. BAD.");
        for (int what : new int[] {MIN, -1, 4, 5, MAX}) due("count(" + what + ")", new RakeTables().count(what), BAD);
        int[] most = {5, 8, 8, 100};
        for (int what = 0; what < 4; what++) {
            due("none", new RakeTables().count(what), 0);
            due("as many as there can be", full().count(what), most[what]);
        }
    }

    private static void tapeRefused() {
        promise(36, "NONE: tape; BAD: sort, n above 60; SIZE.");
        RakeTables x = new RakeTables();
        for (int tape : new int[] {MIN, -1, 6, MAX}) due("tape(" + tape + ", 0, 1)", x.tape(tape, 0, 1), NONE);
        for (int sort : new int[] {MIN, -2, 5, MAX}) due("tape(0, " + sort + ", 1)", x.tape(0, sort, 1), BAD);
        for (int sort = 0; sort <= 4; sort++) {
            for (int n : new int[] {61, 62, MAX}) due("tape(0, " + sort + ", " + n + ")", x.tape(0, sort, n), BAD);
            for (int n : new int[] {-1, -2, MIN}) due("tape(0, " + sort + ", " + n + ")", x.tape(0, sort, n), SIZE);
        }
        due("nothing is there yet", x.item(0, 0, 1), NOTHING);
        for (int tape = 0; tape < 6; tape++) {
            for (int n : new int[] {0, 1, 59, 60}) {
                due("tape of " + n, x.tape(tape, tape % 5, n), 1);
                due("the last", x.peek(tape, n - 1), n > 0 ? 0 : NO);
                due("behind it", x.peek(tape, n), NO);
            }
        }
    }

    private static void tapeAnew() {
        promise(36, "all 0, or holds nothing (sort -1: n does not matter): 1.");
        RakeTables x = new RakeTables();
        x.tape(0, 2, 60);
        for (int i = 0; i < 60; i++) x.item(0, i, 7);
        due("tape anew", x.tape(0, 2, 60), 1);
        for (int i = 0; i < 60; i++) due("all 0", x.peek(0, i), 0);
        x.item(0, 5, 7);
        x.tape(0, 2, 3);
        x.tape(0, 3, 60);
        due("longer again, all 0", x.peek(0, 5), 0);
        for (int n : new int[] {MIN, -1, 0, 1, 60, 61, MAX}) {
            x.tape(0, 4, 2);
            due("tape(0, -1, " + n + ")", x.tape(0, -1, n), 1);
            due("holds nothing", x.item(0, 0, 1), NOTHING);
            due("holds nothing", x.peek(0, 0), NO);
        }
        x.tape(0, 4, 0);
        due("a row of none isn't nothing", x.item(0, 0, 1), PLACE);
    }

    private static void tapeOfEachSize() {
        promise(36, "A TAPE becomes a row of n (0 .. 60) of a sort,");
        for (int sort = 0; sort <= 4; sort++) {
            for (int n = 0; n <= 60; n += 20) {
                RakeTables x = new RakeTables();
                due("tape", x.tape(4, sort, n), 1);
                for (int i = 0; i < n; i++) due("item", x.item(4, i, 1), 1);
                for (int i = 0; i < n; i++) due("peek", x.peek(4, i), 1);
                due("item behind the last", x.item(4, n, 1), PLACE);
                due("peek behind the last", x.peek(4, n), NO);
            }
        }
    }

    private static void itemLowestBits() {
        promise(37, "Item i of a TAPE becomes v (its lowest bits, as many as an item has; booleans: whether v is not 0): 1.");
        int[] bits = {8, 16, 32, 64, 1};
        for (int sort = 0; sort <= 4; sort++) {
            RakeTables x = new RakeTables();
            x.tape(0, sort, 1);
            for (int b = 0; b < 64; b++) {
                due("item of bit " + b, x.item(0, 0, 1L << b), 1);
                // The highest of its bits is the one below 0.
                long kept = b >= bits[sort] ? 0 : b == bits[sort] - 1 ? -1L << b : 1L << b;
                due("sort " + sort + ", bit " + b, x.peek(0, 0), sort == 4 ? 1 : kept);
                x.item(0, 0, ~(1L << b));
                due("sort " + sort + ", all but bit " + b, x.peek(0, 0), sort == 4 ? 1 : ~kept);
            }
        }
    }

    private static void itemRefused() {
        promise(37, "booleans: whether v is not 0): 1. NONE; NOTHING; PLACE.");
        RakeTables x = new RakeTables();
        for (int tape : new int[] {MIN, -1, 6, MAX}) due("item(" + tape + ", 0, 1)", x.item(tape, 0, 1), NONE);
        for (int i : new int[] {MIN, -1, 0, 60}) due("item(0, " + i + ", 1)", x.item(0, i, 1), NOTHING);
        for (int sort = 0; sort <= 4; sort++) {
            x.tape(sort, sort, 3);
            for (int i : new int[] {MIN, -1, 3, 60, MAX}) due("item(" + sort + ", " + i + ", 1)", x.item(sort, i, 1), PLACE);
            for (int i = 0; i < 3; i++) due("item(" + sort + ", " + i + ", 1)", x.item(sort, i, 1), 1);
            for (int i = 0; i < 3; i++) due("peek(" + sort + ", " + i + ")", x.peek(sort, i), 1);
        }
    }

    private static void peekRefused() {
        promise(38, "NO: no such TAPE, nothing there, no such place.");
        RakeTables x = new RakeTables();
        for (int tape : new int[] {MIN, -1, 6, MAX}) due("peek(" + tape + ", 0)", x.peek(tape, 0), NO);
        for (int i : new int[] {MIN, -1, 0, 59}) due("peek(0, " + i + ")", x.peek(0, i), NO);
        for (int n : new int[] {0, 1, 60}) {
            x.tape(3, 3, n);
            for (int i : new int[] {MIN, -1, n, MAX}) due("peek(3, " + i + ") of " + n, x.peek(3, i), NO);
            if (n > 0) due("the last", x.peek(3, n - 1), 0);
        }
        x.item(3, 0, -1);
        x.tape(3, -1, 60);
        due("nothing any more", x.peek(3, 0), NO);
    }

    /** Tape 0 has 1 2 3 4 5, tape 1 7 8 9; both are ints. */
    private static RakeTables twoTapes() {
        RakeTables x = new RakeTables();
        x.tape(0, 2, 5);
        x.tape(1, 2, 3);
        for (int i = 0; i < 5; i++) x.item(0, i, i + 1);
        for (int i = 0; i < 3; i++) x.item(1, i, i + 7);
        return x;
    }

    private static void tapeIs(RakeTables x, int tape, int... items) {
        for (int i = 0; i < items.length; i++) due("peek(" + tape + ", " + i + ")", x.peek(tape, i), items[i]);
        due("behind the last", x.peek(tape, items.length), NO);
    }

    private static void shiftRefused() {
        promise(39, "NONE: tapes; NOTHING; CAST: of unlike sorts;");
        RakeTables x = twoTapes();
        for (int tape : new int[] {MIN, -1, 6, MAX}) {
            due("from " + tape, x.shift(tape, 0, 0, 0, 1), NONE);
            due("to " + tape, x.shift(0, 0, tape, 0, 1), NONE);
        }
        due("nothing to take", x.shift(2, 0, 0, 0, 1), NOTHING);
        due("nothing to put into", x.shift(0, 0, 2, 0, 1), NOTHING);
        due("none of nothing", x.shift(2, 0, 2, 0, 0), NOTHING);
        for (int sort = 0; sort <= 4; sort++) {
            x.tape(3, sort, 5);
            due("to sort " + sort, x.shift(0, 0, 3, 0, 1), sort == 2 ? 1 : CAST);
            due("from sort " + sort, x.shift(3, 1, 1, 0, 0), sort == 2 ? 0 : CAST);
        }
        tapeIs(x, 0, 1, 2, 3, 4, 5);
        tapeIs(x, 1, 7, 8, 9);
    }

    private static void shiftEnds() {
        promise(39, "PLACE: n, i or j is below 0, or beyond either's end.");
        int[][] none = {{-1, 0, 1}, {0, -1, 1}, {0, 0, -1}, {MIN, 0, 1}, {0, MIN, 1}, {0, 0, MIN}, {-1, 0, 0}, {0, -1, 0},
            {5, 0, 1}, {6, 0, 0}, {3, 0, 3}, {0, 3, 1}, {0, 4, 0}, {0, 1, 3}, {0, 0, 4}, {MAX, 0, 1}, {0, MAX, 1}, {0, 0, MAX},
            {1, 0, MAX}, {0, 1, MAX}, {MAX, 0, MAX}, {0, MAX, MAX}, {MAX, MAX, 2}, {2, 0, MAX - 1}};
        for (int[] p : none) {
            RakeTables x = twoTapes();
            due("shift of " + p[2] + " from " + p[0] + " to " + p[1], x.shift(0, p[0], 1, p[1], p[2]), PLACE);
            tapeIs(x, 0, 1, 2, 3, 4, 5);
            tapeIs(x, 1, 7, 8, 9);
        }
        RakeTables x = twoTapes();
        due("none at both ends", x.shift(0, 5, 1, 3, 0), 0);
        due("none at both beginnings", x.shift(0, 0, 1, 0, 0), 0);
        tapeIs(x, 1, 7, 8, 9);
        due("to the end of both", x.shift(0, 3, 1, 1, 2), 2);
        tapeIs(x, 1, 7, 4, 5);
        due("all of the other one", x.shift(0, 1, 1, 0, 3), 3);
        tapeIs(x, 1, 2, 3, 4);
        due("all of it back", x.shift(1, 0, 0, 2, 3), 3);
        tapeIs(x, 0, 1, 2, 2, 3, 4);
        x.tape(1, 2, 0);
        due("of a row of none", x.shift(1, 0, 0, 5, 0), 0);
        due("one more than none", x.shift(1, 0, 0, 0, 1), PLACE);
    }

    private static void shiftOntoItself() {
        promise(39, "n items of a TAPE from i on come to another one (or the same) from j on, as they all were before: n.");
        RakeTables up = twoTapes();
        due("upwards", up.shift(0, 0, 0, 1, 4), 4);
        tapeIs(up, 0, 1, 1, 2, 3, 4);
        RakeTables down = twoTapes();
        due("downwards", down.shift(0, 1, 0, 0, 4), 4);
        tapeIs(down, 0, 2, 3, 4, 5, 5);
        due("onto the same place", down.shift(0, 0, 0, 0, 5), 5);
        tapeIs(down, 0, 2, 3, 4, 5, 5);
        RakeTables far = twoTapes();
        due("without a common place", far.shift(0, 0, 0, 3, 2), 2);
        tapeIs(far, 0, 1, 2, 3, 1, 2);
    }

    private static void noIsTheLeastLong() {
        sentenceIn("The constants: ", "Ahead of the calls", "`NO = Long.MIN_VALUE`: There is no such number.");
        due("NO", RakeTables.NO, Long.MIN_VALUE);
        answering("NONE (-1) no such number; BAD (-2) a number is not as told; STATE (-3) as told; FULL (-4); "
                + "FINE (-6) as told;");
        int[] constants = {RakeTables.NONE, RakeTables.BAD, RakeTables.STATE, RakeTables.FULL, RakeTables.FINE};
        int[] values = {-1, -2, -3, -4, -6};
        for (int c = 0; c < 5; c++) due("a constant", constants[c], values[c]);
    }
}
