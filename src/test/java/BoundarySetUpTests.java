/** The boundary cases of the terms, part 1: sizes, counts, what is fine, fits and rounds, the text. */
public final class BoundarySetUpTests extends Boundary {
    public static void main(String[] args) {
        termsOfSizes();
        termsOfTheTable();
        termsOfFine();
        termsOfFits();
        termsOfTheText();
        end();
    }

    // ---- terms 1: sizes, counts, marks, margins

    private static void termsOfSizes() {
        rowsAndColumns();
        cellsInOrder();
        countsFrom0To20();
        marksFrom0To2();
        waysAndTheirLines();
        linesOfNone();
        marginsFrom0To60();
        notThreeAtFirst();
    }

    private static void rowsAndColumns() {
        terms("ROWS 1 .. 3, COLUMNS 1 .. 3 (2 each at first).");
        RakeTables x = new RakeTables();
        due("told(0)", x.told(0), 2);
        due("told(1)", x.told(1), 2);
        due("a cell behind the last row", x.of(2, 0, 0), NONE);
        due("a cell behind the last column", x.of(0, 2, 0), NONE);
        for (int rows = 1; rows <= 3; rows++) {
            for (int columns = 1; columns <= 3; columns++) {
                due("size(" + rows + ", " + columns + ")", x.size(rows, columns), rows * columns);
                due("the last cell", x.of(rows - 1, columns - 1, 0), 1);
                due("behind the last row", x.of(rows, columns - 1, 0), NONE);
                due("behind the last column", x.of(rows - 1, columns, 0), NONE);
            }
        }
        for (int n : new int[] {MIN, -1, 0, 4, MAX}) {
            due("size(" + n + ", 2)", x.size(n, 2), BAD);
            due("size(2, " + n + ")", x.size(2, n), BAD);
        }
        due("rows stay", x.told(0), 3);
        due("columns stay", x.told(1), 3);
    }

    private static void cellsInOrder() {
        terms("CELLS are in order by i, then by j.");
        RakeTables x = table(3, 2);
        int[] order = {0, 1, 10, 11, 20, 21};
        for (int k = 0; k < 6; k++) due("rank(" + k + ") of like ones", x.rank(k), order[k]);
    }

    private static void countsFrom0To20() {
        terms("Each has a COUNT (0 .. 20; 1 at first)");
        RakeTables x = new RakeTables();
        due("at first", x.of(1, 1, 0), 1);
        due("tell 0", x.tell(1, 1, 0), 1);
        due("tell 20", x.tell(1, 1, 20), 0);
        due("tell 21", x.tell(1, 1, 21), BAD);
        due("tell -1", x.tell(1, 1, -1), BAD);
        due("it stays", x.of(1, 1, 0), 20);
    }

    private static void marksFrom0To2() {
        terms("a MARK (0 .. 2; 0 at first).");
        RakeTables x = new RakeTables();
        due("at first", x.of(1, 1, 1), 0);
        due("mark 2", x.mark(1, 1, 2), 0);
        due("mark 0", x.mark(1, 1, 0), 2);
        due("mark 3", x.mark(1, 1, 3), BAD);
        due("mark -1", x.mark(1, 1, -1), BAD);
        due("it stays", x.of(1, 1, 1), 0);
    }

    private static void waysAndTheirLines() {
        terms("WAYS: 0 ROWS, 1 COLUMNS, 2 MARKS 0 .. 2. LINES of a WAY: each ROW's, COLUMN's CELLS,");
        int[] most = {0, 0, 2};
        for (int size = 1; size <= 3; size++) {
            RakeTables x = new RakeTables();
            x.size(size, 4 - size);
            most[0] = size - 1;
            most[1] = 3 - size;
            for (int way = -1; way <= 3; way++) {
                for (int k = -1; k <= 3; k++) {
                    boolean isThere = way >= 0 && way < 3 && k >= 0 && k <= most[way];
                    due("marginOf(" + way + ", " + k + ")", x.marginOf(way, k), isThere ? 10 : NONE);
                    due("margin(" + way + ", " + k + ", 10)", x.margin(way, k, 10), isThere ? 10 : NONE);
                    due("sum(" + way + ", " + k + ", 1)", x.sum(way, k, 1), isThere ? 1 : NO);
                    due("gap(" + way + ", " + k + ", 1)", x.gap(way, k, 1), isThere ? 1 : NO);
                    due("together(" + way + ", " + k + ")", x.together(way, k) >= 0 ? 0 : -1, isThere ? 0 : NONE);
                }
            }
        }
    }

    private static void linesOfNone() {
        terms("CELLS with each MARK (perhaps none).");
        RakeTables x = new RakeTables();
        x.three(true);
        sumIs(x, 2, 1, 0, 1);
        due("gap", x.gap(2, 2, 0), 10);
        due("together", x.together(2, 1), 0);
        due("the farthest is one of none", x.farthest(), 21);
        due("fit by marks", x.fit(2), 4);
        sumIs(x, 2, 0, 10, 1);
        sumIs(x, 2, 1, 0, 1);
        margins(margins(margins(x, 2, 10, 0, 0), 0, 5, 5), 1, 5, 5);
        due("settled", x.told(4), 1);
        x.margin(2, 2, 1);
        due("not settled by one of none", x.told(4), 0);
    }

    private static void marginsFrom0To60() {
        terms("Each LINE has a MARGIN (0 .. 60; 10 at first).");
        RakeTables x = new RakeTables();
        x.size(3, 3);
        for (int way = 0; way < 3; way++) {
            for (int k = 0; k < 3; k++) {
                due("at first", x.marginOf(way, k), 10);
                due("margin 0", x.margin(way, k, 0), 10);
                due("margin 60", x.margin(way, k, 60), 0);
                due("margin 61", x.margin(way, k, 61), BAD);
                due("margin -1", x.margin(way, k, -1), BAD);
                due("it stays", x.marginOf(way, k), 60);
            }
        }
    }

    private static void notThreeAtFirst() {
        terms("THREE: whether MARKS are fitted, too (not at first).");
        RakeTables x = new RakeTables();
        due("told(2)", x.told(2), 0);
        due("no fit by marks", x.fit(2), STATE);
        margins(margins(x, 0, 2, 2), 1, 2, 2);
        due("no round, as marks don't matter", x.rounds(1), 0);
        x.three(true);
        due("a round by marks", x.rounds(1), 1);
    }

    // ---- terms 1: when the table is the counts

    private static void termsOfTheTable() {
        countsAtFirst();
        toldAnewByCalls();
        toldAnewByClauses();
        refusedLeavesTheTable();
        restLeavesTheTable();
        faultLeavesTheTable();
    }

    private static void countsAtFirst() {
        terms("The TABLE has a fraction for each CELL: at first,");
        RakeTables x = new RakeTables();
        due("rounds", x.told(3), 0);
        for (int c = 0; c < 4; c++) cellIs(x, c / 2, c % 2, 1, 1);
    }

    private static void toldAnewByCalls() {
        terms("as soon as ROWS, COLUMNS, COUNTS are told anew (by a call,");
        RakeTables x = rakedOnce();
        x.size(2, 2);
        isAnew("size as it was", x);
        x = rakedOnce();
        x.size(1, 3);
        isAnew("another size", x);
        x = rakedOnce();
        x.tell(0, 0, 1);
        isAnew("a count as it was", x);
        x = rakedOnce();
        x.tell(1, 1, 2);
        isAnew("another count", x);
        cellIs(x, 1, 1, 2, 1);
    }

    private static void toldAnewByClauses() {
        terms("or a CLAUSE, that isn't refused, also if they stay as they were), it is the COUNTS, and has had no ROUNDS.");
        for (String clause : new String[] {"s22", "s31", "n001", "n112", "n0001"}) {
            RakeTables x = rakedOnce();
            due(clause, text(x, clause), 1);
            isAnew(clause, x);
        }
    }

    private static void refusedLeavesTheTable() {
        terms("that isn't refused");
        RakeTables x = rakedOnce();
        x.size(4, 2);
        isRaked("size(4, 2)", x);
        x.size(2, 0);
        isRaked("size(2, 0)", x);
        x.tell(0, 0, 21);
        isRaked("tell(0, 0, 21)", x);
        x.tell(2, 0, 1);
        isRaked("tell(2, 0, 1)", x);
        for (String clause : new String[] {"s02", "s20", "s42", "s24", "n0021", "n201", "n021"}) {
            due(clause, text(x, clause), 0);
            isRaked(clause, x);
        }
    }

    private static void restLeavesTheTable() {
        terms("ROWS, COLUMNS, COUNTS are told anew");
        RakeTables x = rakedOnce();
        x.mark(0, 0, 2);
        isRaked("mark", x);
        x.margin(0, 0, 9);
        isRaked("margin", x);
        x.three(true);
        isRaked("three", x);
        due("clauses", text(x, "k001;m0010;x"), 3);
        isRaked("clauses", x);
        x.see(0, 0, 1);
        x.book(0, 0, 1);
        x.event(0, 0);
        isRaked("what is told by hand", x);
    }

    private static void faultLeavesTheTable() {
        terms("Without FAULT they are done");
        for (String text : new String[] {"n001;", "s22;y", "n0012x", "s22;n00"}) {
            RakeTables x = rakedOnce();
            due("is a fault: " + text, text(x, text) <= -10 ? 1 : 0, 1);
            isRaked(text, x);
        }
    }

    // ---- terms 1: sums, what is fine

    private static void termsOfFine() {
        sumOfNone();
        sumInOrder();
        lowestTerms();
        edgeOfSumsAbove();
        edgeOfSumsBelow();
        edgeOfCellsAbove();
        edgeOfCellsBelow();
        fineBehindAny();
        gapIsNeverFine();
    }

    private static void sumOfNone() {
        terms("SUM of some: 0,");
        sumIs(new RakeTables(), 2, 2, 0, 1);
        sumIs(table(1, 1, 0), 0, 0, 0, 1);
    }

    private static void sumInOrder() {
        terms("and one by one, in order.");
        RakeTables x = table(3, 2, 16, 16, 10, 20, 8, 16);
        fitted(x, 1, 10, 1);
        fitted(x, 0, 8, 32, 4);
        // 2080/277, 4160/147, 520/147: the first two are 1458080/40719.
        due("fine behind two", x.sum(1, 0, 0), NO);
        sumIs(x, 1, 1, 63172, 13573);
        RakeTables other = table(3, 2, 16, 16, 8, 16, 10, 20);
        fitted(other, 1, 10, 1);
        fitted(other, 0, 8, 4, 32);
        sumIs(other, 1, 0, 534040, 13573);
    }

    private static void lowestTerms() {
        terms("FINE: a fraction that in lowest terms has");
        RakeTables x = marked(table(3, 3, 20, 20, 20, 20, 10, 5, 3, 2, 1));
        fitted(x, 2, 1);
        // Three times 101 below the line are 1030301, if nothing is cancelled.
        sumIs(x, 0, 0, 60, 101);
        sumIs(x, 1, 2, 26, 101);
        roundedIs(x, 0, 0, 0, 0, 0, 0, 0, 0, 1);
        RakeTables same = rowsTogetherFine();
        cellIs(same, 2, 2, 352, 89);
        due("a fit by which nothing is otherwise", same.fit(1), 0);
    }

    private static void edgeOfSumsAbove() {
        terms("above or below the line more than 999999;");
        RakeTables x = table(3, 2, 18, 8, 6, 9, 16, 12);
        fitted(x, 0, 3, 3, 1);
        fitted(x, 1, 2, 1);
        sumIs(x, 0, 1, 999999, 836978);
        x = table(2, 2, 5, 12, 3, 13);
        fitted(x, 1, 5, 3);
        fitted(x, 0, 3, 5);
        due("1000000 above", x.sum(1, 0, 0), NO);
        due("1000000 above", x.sum(1, 0, 1), NO);
        due("less in the next", x.sum(1, 1, 0), 672616);
    }

    private static void edgeOfSumsBelow() {
        terms("or below the line more than 999999;");
        RakeTables x = table(3, 2, 7, 8, 9, 8, 5, 19);
        fitted(x, 0, 1, 1, 1);
        fitted(x, 1, 1, 1);
        sumIs(x, 0, 2, 613870, 999999);
        x = marked(table(2, 3, 14, 3, 13, 7, 17, 12), 2, 1, 2, 2, 2, 2);
        fitted(x, 2, 1, 2, 1);
        fitted(x, 0, 1, 1);
        fitted(x, 1, 2, 2, 2);
        fitted(x, 2, 1, 1, 1);
        due("1000000 below", x.sum(0, 1, 0), NO);
        due("1000000 below", x.sum(0, 1, 1), NO);
    }

    private static void edgeOfCellsAbove() {
        terms("has above or below the line more than 999999");
        RakeTables x = table(3, 2, 11, 6, 20, 17, 13, 14);
        fitted(x, 0, 13, 17, 1);
        due("999999 above", fitted(x, 1, 7, 6), 6);
        cellIs(x, 0, 0, 999999, 307094);
        x = table(2, 2, 16, 9, 7, 20);
        fitted(x, 0, 17, 40);
        due("1000000 above", fitted(x, 1, 53, 50), FINE);
        cellIs(x, 1, 1, 800, 27);
    }

    private static void edgeOfCellsBelow() {
        terms("below the line more than 999999");
        RakeTables x = marked(table(3, 3, 10, 7, 6, 8, 3, 5, 14, 18, 16), 1, 0, 2, 0, 0, 2, 2, 1, 2);
        fitted(x, 0, 1, 1, 1);
        fitted(x, 1, 2, 1, 1);
        due("999999 below", fitted(x, 2, 3, 1, 2), 9);
        cellIs(x, 2, 2, 498272, 999999);
        x = marked(table(3, 3, 3, 8, 6, 9, 11, 12, 10, 5, 14), 2, 1, 0, 0, 0, 0, 0, 0, 1);
        fitted(x, 0, 1, 47, 31);
        due("1000000 below", fitted(x, 2, 1, 17, 3), FINE);
        cellIs(x, 1, 1, 517, 32);
    }

    private static void fineBehindAny() {
        terms("a SUM, too, if it is FINE behind any of them.");
        RakeTables x = rowsTogetherFine();
        for (int c = 0; c < 9; c++) x.mark(c / 3, c % 3, 0);
        // Behind all of them it is 30, as the columns' margins together are.
        due("fine behind some, not behind all", x.sum(2, 0, 0), NO);
        x.three(true);
        due("no fit by it", x.fit(2), FINE);
        due("no rounded by the rows' sums together, 30 behind all", x.rounded(0, 0), FINE);
    }

    private static void gapIsNeverFine() {
        promise(16, "NO: way, k, part; the SUM is FINE.");
        RakeTables x = table(3, 2, 7, 8, 9, 8, 5, 19);
        fitted(x, 0, 1, 1, 1);
        fitted(x, 1, 1, 1);
        x.margin(0, 2, 60);
        due("60 less 613870/999999, above", x.gap(0, 2, 0), 59386070);
        due("below", x.gap(0, 2, 1), 999999);
        due("the farthest by it", x.farthest(), 2);
        due("not settled", x.told(4), 0);
        due("of a sum that is fine", columnsFine().gap(1, 0, 0), NO);
        due("of a sum that is fine", rowsFine().gap(0, 0, 1), NO);
        due("of a mark's", rowsTogetherFine().gap(2, 0, 0), NO);
        due("of another mark's", rowsTogetherFine().gap(2, 2, 0), 10);
    }

    // ---- terms 1: fits and rounds

    private static void termsOfFits() {
        lineOfZeroStays();
        everyLineIsFitted();
        marginOfZero();
        noFitByASum();
        noFitByACell();
        noRoundByAnyFit();
        marksWithoutThree();
        noRoundIfNothingIsOtherwise();
    }

    private static void lineOfZeroStays() {
        terms("in each LINE of it with a SUM above 0 each CELL becomes itself times the MARGIN, by the SUM.");
        RakeTables x = table(2, 2, 0, 0, 3, 0);
        due("fit by rows", fitted(x, 0, 9, 6), 1);
        cellIs(x, 0, 0, 0, 1);
        cellIs(x, 0, 1, 0, 1);
        cellIs(x, 1, 0, 6, 1);
        due("fit by columns, the second of 0", fitted(x, 1, 7, 7), 1);
        cellIs(x, 1, 0, 7, 1);
        cellIs(x, 1, 1, 0, 1);
        RakeTables zeros = marked(table(2, 2, 0, 0, 0, 0));
        for (int way = 0; way < 3; way++) due("all of 0, way " + way, zeros.fit(way), 0);
        due("no round of them", zeros.rounds(1), 0);
        roundedIs(zeros, 0, 0, 0, 0);
    }

    private static void everyLineIsFitted() {
        terms("in each LINE of it");
        for (int rows = 1; rows <= 3; rows++) {
            for (int columns = 1; columns <= 3; columns++) {
                RakeTables x = new RakeTables();
                x.size(rows, columns);
                int[] lines = {rows, columns, 1};
                x.three(true);
                for (int way = 0; way < 3; way++) {
                    fitted(x, way, 20, 40, 60);
                    for (int k = 0; k < lines[way]; k++) sumIs(x, way, k, 20 * (k + 1), 1);
                }
            }
        }
    }

    private static void marginOfZero() {
        terms("becomes itself times the MARGIN, by the SUM.");
        RakeTables x = table(2, 2, 1, 2, 3, 4);
        due("a margin of 0", fitted(x, 0, 0, 7), 2);
        cellIs(x, 0, 1, 0, 1);
        cellIs(x, 1, 1, 4, 1);
        due("zeros stay", fitted(x, 0, 5, 7), 0);
        cellIs(x, 0, 1, 0, 1);
    }

    private static void noFitByASum() {
        terms("There is none, if the SUM of a LINE of it,");
        RakeTables columns = columnsFine();
        due("by columns", columns.fit(1), FINE);
        cellIs(columns, 0, 0, 1200, 59);
        due("by rows there is one, that changes nothing", columns.fit(0), 0);
        RakeTables rows = rowsFine();
        due("by rows", rows.fit(0), FINE);
        cellIs(rows, 0, 0, 1200, 59);
        due("by columns there is one, that changes nothing", rows.fit(1), 0);
        RakeTables marks = rowsTogetherFine();
        marks.three(true);
        due("by marks", marks.fit(2), FINE);
        cellIs(marks, 2, 0, 52, 19);
        // Mark 0 has but one cell, and could be fitted.
        RakeTables last = rowsTogetherFine();
        for (int c = 0; c < 9; c++) last.mark(c / 3, c % 3, 2);
        last.mark(0, 0, 0);
        last.three(true);
        due("the last line alone", last.fit(2), FINE);
        cellIs(last, 0, 0, 1053, 209);
    }

    private static void noFitByACell() {
        terms("or what a CELL would become, is FINE.");
        RakeTables x = rowsTogetherFine();
        // The last of the last row would have 2354176 above the line.
        due("by rows", x.fit(0), FINE);
        cellIs(x, 0, 0, 1053, 209);
        cellIs(x, 2, 2, 352, 89);
        RakeTables first = table(2, 2, 16, 9, 7, 20);
        fitted(first, 0, 17, 40);
        due("by columns", fitted(first, 1, 53, 50), FINE);
        cellIs(first, 0, 0, 272, 25);
        cellIs(first, 1, 1, 800, 27);
    }

    private static void noRoundByAnyFit() {
        terms("There is none, if one of these FITS isn't there (whichever),");
        RakeTables rows = rowsFine();
        due("not by rows", rows.rounds(1), 0);
        cellIs(rows, 0, 0, 1200, 59);
        RakeTables columns = columnsFine();
        columns.begin();
        due("not by columns, but by rows", columns.rounds(1), 0);
        due("no round", columns.told(3), 0);
        cellIs(columns, 0, 0, 20, 1);
        RakeTables marks = aheadOfFine();
        marks.three(true);
        due("not by marks, but by rows and columns", marks.rounds(1), 0);
        due("no round", marks.told(3), 0);
        cellIs(marks, 0, 0, 3, 1);
        cellIs(marks, 2, 2, 6, 1);
    }

    private static void marksWithoutThree() {
        terms("FITS by ROWS, by COLUMNS, and, if THREE, by MARKS, one behind the other.");
        RakeTables x = aheadOfFine();
        due("marks' sums are fine, but not asked for", x.rounds(1), 1);
        RakeTables marks = marked(table(1, 2, 1, 1), 0, 1);
        margins(margins(margins(marks, 0, 4), 1, 3, 5), 2, 7, 8);
        due("a round", marks.rounds(1), 1);
        cellIs(marks, 0, 0, 7, 1);
        cellIs(marks, 0, 1, 8, 1);
        marks.begin();
        marks.three(false);
        due("a round without them", marks.rounds(1), 1);
        cellIs(marks, 0, 0, 3, 1);
        cellIs(marks, 0, 1, 5, 1);
    }

    private static void noRoundIfNothingIsOtherwise() {
        terms("or no CELL would be otherwise behind it than ahead.");
        RakeTables x = margins(new RakeTables(), 1, 2, 2);
        due("there and back", x.rounds(1), 0);
        due("no round", x.told(3), 0);
        due("though the first of its fits changes all", x.fit(0), 4);
        RakeTables one = margins(margins(table(2, 2, 3, 0, 0, 4), 0, 3, 4), 1, 3, 5);
        due("one cell otherwise is enough", one.rounds(20), 1);
        cellIs(one, 1, 1, 5, 1);
        cellIs(one, 0, 0, 3, 1);
        for (int c = 0; c < 9; c++) {
            RakeTables x9 = table(3, 3, 0, 0, 0, 0, 0, 0, 0, 0, 0);
            x9.tell(c / 3, c % 3, 9);
            due("one of nine otherwise is enough", x9.rounds(20), 1);
            cellIs(x9, c / 3, c % 3, 10, 1);
        }
    }

    // ---- terms 1: the text

    private static void termsOfTheText() {
        hundredBytes();
        oneToTwelveClauses();
        between();
        sizeClause();
        threeIsTurned();
        oneDigitEach();
        oneOrTwoDigits();
        noBlanks();
        faultAtTheEnd();
        doneOneBehindTheOther();
        refusedClauses();
        nothingDoneByAFault();
    }

    private static void faultIs(String text, int fault) {
        due("read of '" + text + "'", text(new RakeTables(), text), -10 - fault);
    }

    private static void hundredBytes() {
        terms("A set-up is read from THE TEXT (bytes, 100 at most):");
        RakeTables x = new RakeTables();
        for (int n = 1; n <= 100; n++) due("feed", x.feed('x'), n);
        due("one more", x.feed('x'), FULL);
        due("as many", x.count(3), 100);
        due("read of a hundred x", x.read(), -10 - 1);
        String longest = "m0010;m0111;m1012;m1113;m2014;m2115;m2216;n0017;n0118;n1019;n1120;s22";
        due("the longest kinds", text(x, longest), 12);
        String hundred = longest.replace("s22", "m1021") + "0;x;x;x;x;x;x;x;x;x;x;x;x;x;x";
        due("its bytes", hundred.length(), 100);
        due("a fault behind twelve clauses", text(x, hundred), -10 - 71);
    }

    private static void oneToTwelveClauses() {
        terms("CLAUSES, 1 to 12,");
        faultIs("", 0);
        due("one", text(new RakeTables(), "x"), 1);
        due("twelve", text(new RakeTables(), "x;x;x;x;x;x;x;x;x;x;x;x"), 12);
        faultIs("x;x;x;x;x;x;x;x;x;x;x;x;", 23);
        faultIs("x;x;x;x;x;x;x;x;x;x;x;x;x", 23);
        faultIs("s22;s22;s22;s22;s22;s22;s22;s22;s22;s22;s22;s22;x", 47);
    }

    private static void between() {
        terms("with ; between:");
        faultIs(";", 0);
        faultIs("x;;x", 2);
        faultIs("x;", 2);
        faultIs("x,x", 1);
        faultIs("xx", 1);
        faultIs("s22x", 3);
        faultIs("k000x", 4);
        faultIs("n0010x", 5);
        faultIs("n001x", 4);
    }

    private static void sizeClause() {
        terms("s ROWS COLUMNS (they become so many, all COUNTS 1, MARKS 0, MARGINS 10; THREE stays);");
        for (int three = 0; three < 2; three++) {
            RakeTables x = marked(table(3, 3, 2, 2, 2, 2, 2, 2, 2, 2, 2), 1, 1, 1, 1, 1, 1, 1, 1, 1);
            for (int way = 0; way < 3; way++) margins(x, way, 1, 2, 3);
            x.three(three == 1);
            due("s33", text(x, "s33"), 1);
            for (int c = 0; c < 9; c++) {
                due("count", x.of(c / 3, c % 3, 0), 1);
                due("mark", x.of(c / 3, c % 3, 1), 0);
                due("margin", x.marginOf(c / 3, c % 3), 10);
            }
            due("three", x.told(2), three);
            due("s13", text(x, "s13"), 1);
            due("rows", x.told(0), 1);
            due("columns", x.told(1), 3);
        }
    }

    private static void threeIsTurned() {
        terms("x (THREE is turned).");
        RakeTables x = new RakeTables();
        for (int n = 1; n < 5; n++) {
            due("x", text(x, "x"), 1);
            due("three", x.told(2), n % 2);
        }
        due("twice", text(x, "x;x"), 2);
        due("three", x.told(2), 0);
    }

    private static void oneDigitEach() {
        terms("ROWS, COLUMNS, i, j, MARK, WAY, LINE: a digit each;");
        faultIs("s222", 3);
        faultIs("k0000", 4);
        // The signs next to the digits.
        for (String sign : new String[] {"/", ":", "-", "+", "x"}) {
            faultIs("s" + sign + "2", 1);
            faultIs("s2" + sign, 2);
            for (String kind : new String[] {"n", "k", "m"}) {
                faultIs(kind + sign + "01", 1);
                faultIs(kind + "0" + sign + "1", 2);
                faultIs(kind + "00" + sign, 3);
            }
        }
        for (String digit : new String[] {"0", "9"}) {
            due("s and " + digit, text(new RakeTables(), "s" + digit + digit), 0);
            due("k and " + digit, text(new RakeTables(), "k" + digit + digit + digit), digit.equals("0") ? 1 : 0);
            due("m and " + digit, text(new RakeTables(), "m" + digit + digit + digit), digit.equals("0") ? 1 : 0);
        }
    }

    private static void oneOrTwoDigits() {
        terms("COUNT, MARGIN: 1 or 2 digits.");
        RakeTables x = new RakeTables();
        due("one each", text(x, "n000;n019;m000;m119"), 4);
        due("count", x.of(0, 0, 0), 0);
        due("count", x.of(0, 1, 0), 9);
        due("margin", x.marginOf(0, 0), 0);
        due("margin", x.marginOf(1, 1), 9);
        due("two each", text(x, "n0020;n0107;n1000;m0060;m1109"), 5);
        due("count", x.of(0, 0, 0), 20);
        due("count", x.of(0, 1, 0), 7);
        due("count", x.of(1, 0, 0), 0);
        due("margin", x.marginOf(0, 0), 60);
        due("margin", x.marginOf(1, 1), 9);
        faultIs("n00", 3);
        faultIs("m00", 3);
        faultIs("n00;", 3);
        faultIs("m00;x", 3);
        faultIs("n00200", 5);
        faultIs("m00600", 5);
        faultIs("n002/", 5 - 1);
        faultIs("m006:", 5 - 1);
    }

    private static void noBlanks() {
        terms("Nothing stands between (no blanks).");
        String text = "n001;x";
        for (int p = 0; p <= text.length(); p++) faultIs(text.substring(0, p) + " " + text.substring(p), p);
        faultIs("s2 2", 2);
        faultIs("x\n", 1);
        faultIs("x" + (char) 0, 1);
        faultIs("" + (char) 127, 0);
    }

    private static void faultAtTheEnd() {
        terms("The FAULT: the place of the first byte with which none begins so (the end of THE TEXT, if it ends too early).");
        for (String kind : new String[] {"s22", "n001", "k002", "m005"}) {
            for (int p = 0; p < kind.length(); p++) {
                faultIs(kind.substring(0, p), p);
                faultIs("x;" + kind.substring(0, p), p + 2);
                faultIs(kind.substring(0, p) + "q", p);
            }
            due(kind, text(new RakeTables(), kind), 1);
        }
        for (String other : new String[] {"S22", "N001", "X", "a", "0", "t", "r", "w", "y", "l", "j", "o"}) faultIs(other, 0);
        faultIs("x;s22;n0a1;q", 8);
    }

    private static void doneOneBehindTheOther() {
        terms("Without FAULT they are done, one behind the other;");
        RakeTables x = new RakeTables();
        due("a cell that comes by the size", text(x, "s33;n229;k222;m0260"), 4);
        due("count", x.of(2, 2, 0), 9);
        due("a cell that goes by the size", text(x, "s22;n225;n117"), 2);
        due("all counts", x.told(7), 10);
        due("the last of several", text(x, "n003;n004;n005"), 3);
        due("count", x.of(0, 0, 0), 5);
        due("told ahead of the size", text(x, "n008;s22"), 2);
        due("count", x.of(0, 0, 0), 1);
    }

    private static void refusedClauses() {
        terms("those that would be refused aren't.");
        String[] refused = {"s00", "s02", "s20", "s42", "s24", "s99", "n201", "n021", "n0021", "n0099", "k200", "k020", "k003",
            "k009", "m020", "m120", "m230", "m300", "m900", "m0061", "m0099"};
        for (String clause : refused) {
            changesNothing(clause, RakeTables::new, x -> text(x, clause), 0);
            due("between others: " + clause, text(new RakeTables(), "x;" + clause + ";x"), 2);
        }
        for (String clause : new String[] {"s11", "s33", "n1120", "n110", "k112", "m0160", "m110", "m2260"}) {
            due(clause, text(new RakeTables(), clause), 1);
        }
    }

    private static void nothingDoneByAFault() {
        terms("Without FAULT they are done");
        String[] faulty = {"x;", "s33;", "n005;y", "k002;m0011;", "m0011;;", "x;s22;n00", "n005;x;x;x;x;x;x;x;x;x;x;x;x"};
        for (String text : faulty) {
            due("is a fault: " + text, text(new RakeTables(), text) <= -10 ? 1 : 0, 1);
            alike("nothing is done by " + text, behind(RakeTables::new, x -> text(x, text)), RakeTables::new);
        }
    }
}
