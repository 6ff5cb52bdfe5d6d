import java.util.function.Supplier;
import java.util.function.ToLongFunction;

/** The boundary cases of the terms, part 2: what is asked. */
public final class BoundaryAskedTests extends Boundary {
    public static void main(String[] args) {
        termsOfSets();
        termsOfRounded();
        termsOfRatios();
        termsOfSeen();
        termsOfEvents();
        termsOfTheImage();
        end();
    }

    // ---- terms 2: which sets of rows forbid the margins

    private static void termsOfSets() {
        possibleNotBelow0();
        possibleZeros();
        possibleWithoutMarks();
        forbidsByMore();
        forbidsByCounts();
        forbidsFewest();
        forbidsLeastBits();
        forbidsNone();
    }

    private static void possibleNotBelow0() {
        terms("there are whole numbers, 0 or more, for all CELLS,");
        RakeTables x = margins(margins(table(2, 2, 1, 0, 1, 1), 0, 5, 3), 1, 5, 3);
        due("5 0 | 0 3", x.told(5), 1);
        margins(x, 1, 4, 4);
        due("5 0 | -1 4", x.told(5), 0);
        margins(margins(x, 0, 0, 0), 1, 0, 0);
        due("all 0", x.told(5), 1);
        margins(margins(x, 0, 60, 60), 1, 60, 60);
        due("all 60", x.told(5), 1);
    }

    private static void possibleZeros() {
        terms("0 where the COUNT is 0,");
        RakeTables x = margins(margins(table(2, 2, 0, 1, 1, 0), 0, 4, 6), 1, 6, 4);
        due("0 4 | 6 0", x.told(5), 1);
        margins(x, 1, 5, 5);
        due("0 5 isn't 4", x.told(5), 0);
        RakeTables none = margins(margins(table(2, 2, 0, 0, 1, 1), 0, 0, 8), 1, 3, 5);
        due("a row of none, margin 0", none.told(5), 1);
        margins(margins(none, 0, 1, 8), 1, 3, 6);
        due("a row of none, margin 1", none.told(5), 0);
        RakeTables column = margins(margins(table(2, 2, 0, 1, 0, 1), 0, 3, 5), 1, 1, 7);
        due("a column of none, margin 1", column.told(5), 0);
        margins(column, 1, 0, 8);
        due("a column of none, margin 0", column.told(5), 1);
    }

    private static void possibleWithoutMarks() {
        terms("such that each ROW and each COLUMN has its MARGIN (MARKS don't matter).");
        RakeTables x = marked(new RakeTables(), 0, 1, 2, 0);
        margins(x, 2, 60, 0, 1);
        due("marks' margins otherwise", x.told(5), 1);
        x.margin(0, 0, 11);
        due("rows 1 more than columns", x.told(5), 0);
        margins(x, 0, 10, 9);
        due("rows 1 less than columns", x.told(5), 0);
        due("forbids none", x.told(6), 0);
    }

    private static void forbidsByMore() {
        terms("of sets of ROWS whose MARGINS together are more than those of all COLUMNS");
        RakeTables x = margins(margins(table(2, 2, 1, 0, 1, 1), 0, 7, 3), 1, 7, 5);
        due("as many", x.told(6), 0);
        x.margin(0, 0, 8);
        due("one more", x.told(6), 1);
        margins(margins(x, 0, 7, 5), 1, 7, 5);
        due("all rows as many", x.told(6), 0);
        x.margin(0, 1, 6);
        due("all rows one more", x.told(6), 3);
    }

    private static void forbidsByCounts() {
        terms("with a COUNT above 0 in one of these ROWS");
        RakeTables x = table(2, 2, 1, 0, 0, 1);
        due("a column each", x.told(6), 0);
        x.tell(1, 1, 0);
        due("row 1 has none", x.told(6), 2);
        x.tell(1, 1, 20);
        due("row 1 has one", x.told(6), 0);
        x.tell(0, 0, 0);
        due("row 0 has none", x.told(6), 1);
        x.rounds(1);
        due("behind a round", x.told(6), 1);
    }

    private static void forbidsFewest() {
        terms("that with fewest ROWS,");
        RakeTables x = margins(margins(table(3, 3), 0, 5, 5, 9), 1, 2, 2, 4);
        // Rows 0 and 1 together do, too, and have less bits.
        due("row 2 alone ahead of two", x.told(6), 4);
        margins(x, 0, 8, 1, 8);
        due("two ahead of three", x.told(6), 3);
    }

    private static void forbidsLeastBits() {
        terms("of several that of least BITS (2 to the i for each ROW i, together);");
        RakeTables x = margins(table(3, 1), 1, 5);
        int[][] rows = {{6, 6, 6}, {5, 6, 6}, {5, 5, 6}, {5, 1, 0}, {5, 0, 1}, {0, 5, 1}, {2, 2, 2}, {1, 2, 2}};
        int[] bits = {1, 2, 4, 3, 5, 6, 7, 0};
        for (int r = 0; r < rows.length; r++) {
            margins(x, 0, rows[r]);
            due("told(6)", x.told(6), bits[r]);
        }
        margins(x, 0, 3, 3, 3);
        due("the least of two rows each", x.told(6), 3);
        margins(x, 0, 1, 3, 5);
        due("of two that do, the one of least bits", x.told(6), 5);
    }

    private static void forbidsNone() {
        terms("together); 0: none.");
        RakeTables x = margins(margins(table(3, 3, 0, 0, 0, 0, 0, 0, 0, 0, 0), 0, 0, 0, 0), 1, 0, 0, 0);
        due("all of 0", x.told(6), 0);
        x.margin(1, 0, 60);
        due("columns more", x.told(6), 0);
        due("but not possible", x.told(5), 0);
        x.margin(0, 2, 1);
        due("one row of 1", x.told(6), 4);
    }

    // ---- terms 2: whole numbers

    private static void termsOfRounded() {
        wholeOnesStay();
        sumsWithinOne();
        leastInTheFirst();
        noRoundedByRows();
        noRoundedByColumns();
        noRoundedByAllTogether();
        marksDontMatterToRounded();
        gapsNotBelow0();
        farthestOfSeveral();
        farthestOfMarks();
        settledWithoutGaps();
    }

    private static void wholeOnesStay() {
        terms("down or up to the next whole number (a whole one stays),");
        RakeTables x = margins(table(2, 3, 1, 1, 2, 1, 0, 1), 0, 2, 1);
        x.fit(0);
        // 1/2 1/2 1 | 1/2 0 1/2: with 2 in the last of row 0 there were less in the first two.
        roundedIs(x, 0, 1, 1, 1, 0, 0);
        roundedIs(table(2, 2, 0, 20, 19, 1), 0, 20, 19, 1);
        RakeTables half = table(1, 2, 1, 1);
        fitted(half, 0, 1);
        roundedIs(half, 0, 1);
        fitted(half, 0, 59);
        // 59/2 59/2
        roundedIs(half, 29, 30);
    }

    private static void sumsWithinOne() {
        terms("each ROW and each COLUMN together the SUM in the TABLE, down or up so, and all together the SUM of ROWS' SUMS,");
        RakeTables x = table(3, 3);
        x.fit(0);
        // Nine times 10/3: no line has 9 or 11, because its sum is whole.
        roundedIs(x, 3, 3, 4, 3, 4, 3, 4, 3, 3);
        RakeTables rows = margins(table(2, 2, 1, 1, 1, 3), 0, 3, 2);
        rows.fit(0);
        // 3/2 3/2 | 1/2 3/2: the columns have 2 and 3.
        roundedIs(rows, 1, 2, 1, 1);
        RakeTables all = margins(table(3, 1), 1, 2);
        all.fit(1);
        // Three times 2/3: each row has 0 or 1, all have 2.
        roundedIs(all, 0, 1, 1);
        RakeTables each = table(2, 2, 1, 1, 1, 1);
        fitted(each, 0, 1, 1);
        roundedIs(each, 0, 1, 1, 0);
        RakeTables columns = table(2, 3, 1, 1, 1, 1, 1, 1);
        fitted(columns, 0, 2, 1);
        // 2/3 2/3 2/3 | 1/3 1/3 1/3: each column has 1.
        roundedIs(columns, 0, 1, 1, 1, 0, 0);
        RakeTables sixths = table(3, 2, 1, 2, 1, 2, 1, 2);
        fitted(sixths, 0, 1, 1, 0);
        // 1/3 2/3 | 1/3 2/3 | 0 0: the first column has 0 or 1, the second 1 or 2.
        roundedIs(sixths, 0, 1, 0, 1, 0, 0);
        RakeTables wide = table(2, 3);
        fitted(wide, 0, 1, 1);
        // Six times 1/3: the last column, too, has 0 or 1.
        roundedIs(wide, 0, 0, 1, 0, 1, 0);
        RakeTables high = table(3, 2);
        fitted(high, 1, 1, 1);
        // Six times 1/3: the last row, too, has 0 or 1.
        roundedIs(high, 0, 0, 0, 1, 1, 0);
    }

    private static void leastInTheFirst() {
        terms("that which has the least in the first CELL, of several of these in the second one, and so on "
                + "(there is always one).");
        RakeTables x = table(2, 3, 1, 1, 1, 1, 1, 1);
        fitted(x, 1, 1, 1, 1);
        // Six halves, each row 3/2: all have 3, each column 1.
        roundedIs(x, 0, 0, 1, 1, 1, 0);
        RakeTables down = margins(table(3, 3), 0, 1, 1, 1);
        down.fit(0);
        roundedIs(down, 0, 0, 1, 0, 1, 0, 1, 0, 0);
        RakeTables two = margins(table(3, 3), 0, 2, 2, 2);
        two.fit(0);
        roundedIs(two, 0, 1, 1, 1, 0, 1, 1, 1, 0);
    }

    private static void noRoundedByRows() {
        terms("There is none, if one of these SUMS is FINE.");
        RakeTables x = rowsFine();
        sumIs(x, 1, 2, 60, 1);
        due("a row's sum", x.sum(0, 0, 0), NO);
        due("rounded", x.rounded(0, 0), FINE);
        due("together", x.together(1, 2), FINE);
        due("looked", x.looked(), FINE);
        due("judge", x.judge(0, 0), FINE);
        x.begin();
        due("behind begin", x.rounded(0, 0), 20);
    }

    private static void noRoundedByColumns() {
        terms("if one of these SUMS is FINE.");
        RakeTables x = columnsFine();
        sumIs(x, 0, 2, 60, 1);
        due("a column's sum", x.sum(1, 0, 0), NO);
        due("rounded", x.rounded(2, 2), FINE);
        due("together", x.together(0, 0), FINE);
        due("looked", x.looked(), FINE);
        due("judge", x.judge(5, -1), FINE);
    }

    private static void noRoundedByAllTogether() {
        terms("all together the SUM of ROWS' SUMS, down or up so,");
        RakeTables x = table(3, 2, 2, 2, 10, 10, 16, 10);
        fitted(x, 0, 8, 1, 5);
        fitted(x, 1, 50, 1);
        // 888888/32899 and 111111/32899: together 999999 above the line.
        sumIs(x, 0, 0, 888888, 32899);
        sumIs(x, 0, 1, 111111, 32899);
        roundedIs(x, 26, 1, 3, 0, 21, 0);
        x = table(3, 3, 16, 8, 20, 5, 8, 20, 2, 1, 2);
        fitted(x, 1, 40, 40, 50);
        // 578540/8211 and 421460/8211: together 1000000 above the line.
        sumIs(x, 0, 0, 578540, 8211);
        sumIs(x, 0, 1, 421460, 8211);
        due("rounded", x.rounded(0, 0), FINE);
        RakeTables other = table(3, 3, 16, 8, 20, 2, 1, 2, 5, 8, 20);
        fitted(other, 1, 40, 40, 50);
        roundedIs(other, 27, 19, 24, 4, 2, 2, 9, 19, 24);
    }

    private static void marksDontMatterToRounded() {
        terms("if one of these SUMS is FINE.");
        int fine = 0;
        for (int marks = 0; marks < 64; marks++) {
            RakeTables x = table(3, 2, 2, 2, 10, 10, 16, 10);
            fitted(x, 0, 8, 1, 5);
            fitted(x, 1, 50, 1);
            for (int c = 0; c < 6; c++) x.mark(c / 2, c % 2, marks >> c & 1);
            x.three(true);
            if (x.sum(2, 0, 0) == NO || x.sum(2, 1, 0) == NO) fine++;
            due("rounded", x.rounded(0, 0), 26);
        }
        due("some marks' sums are fine", fine > 0 ? 1 : 0, 1);
    }

    private static void gapsNotBelow0() {
        terms("GAP of a LINE: SUM less MARGIN, or MARGIN less SUM: the one that isn't below 0.");
        RakeTables x = margins(table(3, 1, 4, 5, 6), 0, 5, 5, 5);
        int[] gaps = {1, 0, 1};
        for (int k = 0; k < 3; k++) {
            due("gap above", x.gap(0, k, 0), gaps[k]);
            due("gap below", x.gap(0, k, 1), 1);
        }
        RakeTables third = table(1, 3);
        fitted(third, 0, 1);
        margins(third, 1, 1, 0, 60);
        long[] above = {2, 1, 179};
        for (int k = 0; k < 3; k++) {
            due("gap above", third.gap(1, k, 0), above[k]);
            due("gap below", third.gap(1, k, 1), 3);
        }
    }

    private static void farthestOfSeveral() {
        terms("that with the greatest GAP, of several the first.");
        RakeTables x = marked(table(3, 3), 0, 0, 0, 1, 1, 1, 2, 2, 2);
        for (int way = 0; way < 3; way++) margins(x, way, 3, 3, 3);
        due("all settled", x.farthest(), 0);
        int[] order = {22, 21, 20, 12, 11, 10, 2, 1, 0};
        for (int line : order) {
            // Above and below the sum is alike far.
            x.margin(line / 10, line % 10, line % 2 == 0 ? 5 : 1);
            due("the first of several", x.farthest(), line);
        }
        for (int line : order) {
            x.margin(line / 10, line % 10, 6);
            due("the greatest, behind others", x.farthest(), line);
            x.margin(line / 10, line % 10, 5);
        }
    }

    private static void farthestOfMarks() {
        terms("FARTHEST: of LINES of ROWS, then of COLUMNS, then, if THREE, of MARKS");
        RakeTables x = margins(table(1, 1, 7), 2, 60, 60, 60);
        margins(margins(x, 0, 7), 1, 7);
        due("not three", x.farthest(), 0);
        due("settled", x.told(4), 1);
        x.three(true);
        due("three", x.farthest(), 21);
        due("not settled", x.told(4), 0);
        RakeTables fine = rowsTogetherFine();
        due("not three, the sum of a mark is fine", fine.farthest(), 1);
        fine.three(true);
        due("three", fine.farthest(), FINE);
        due("three", fine.told(4), FINE);
    }

    private static void settledWithoutGaps() {
        terms("SETTLED: no GAP of these is above 0.");
        for (int way = 0; way < 3; way++) {
            for (int k = 0; k < 3; k++) {
                RakeTables x = marked(table(3, 3), 0, 1, 2, 0, 1, 2, 0, 1, 2);
                for (int w = 0; w < 3; w++) margins(x, w, 3, 3, 3);
                due("settled", x.told(4), 1);
                x.margin(way, k, 4);
                due("one gap", x.told(4), 0);
                x.margin(way, k, 2);
                due("one gap the other way", x.told(4), 0);
                x.three(false);
                due("without marks", x.told(4), way == 2 ? 1 : 0);
            }
        }
    }

    // ---- terms 2: ratios, orders, ranks

    private static void termsOfRatios() {
        crossByZero();
        crossTooLong();
        crossCancelled();
        ordersTooLong();
        ordersOfNone();
        ranksOfLikeOnes();
    }

    private static void crossByZero() {
        terms("(NO: one of both it is by is 0;");
        crossIs(table(2, 2, 3, 0, 4, 5), 0, 1, 0, 1, NO, NO);
        crossIs(table(2, 2, 3, 2, 0, 5), 0, 1, 0, 1, NO, NO);
        crossIs(table(2, 2, 0, 0, 0, 0), 0, 1, 0, 1, NO, NO);
        crossIs(table(2, 2, 0, 2, 4, 5), 0, 1, 0, 1, 0, 1);
        crossIs(table(2, 2, 3, 2, 4, 0), 0, 1, 0, 1, 0, 1);
        crossIs(table(2, 2, 0, 2, 4, 0), 0, 1, 0, 1, 0, 1);
        crossIs(table(2, 2, 0, 2, 4, 5), 0, 0, 0, 0, NO, NO);
        crossIs(table(2, 2, 0, 2, 4, 5), 1, 1, 1, 1, 1, 1);
        RakeTables x = margins(table(2, 2, 3, 2, 4, 5), 0, 0, 9);
        crossIs(x, 0, 1, 0, 1, 15, 8);
        x.fit(0);
        crossIs(x, 0, 1, 0, 1, NO, NO);
        x.begin();
        crossIs(x, 0, 1, 0, 1, 15, 8);
    }

    private static void crossTooLong() {
        terms("a number above or below the line is no long).");
        RakeTables x = marked(table(3, 2, 2, 15, 10, 19, 12, 12), 1, 2, 1, 0, 2, 0);
        fitted(x, 1, 2, 1);
        fitted(x, 2, 1, 3, 3);
        fitted(x, 0, 2, 3, 1);
        fitted(x, 2, 3, 3, 1);
        crossIs(x, 0, 2, 0, 1, 9223359275528563201L, 5004118688829480400L);
        crossIs(x, 2, 0, 0, 1, 5004118688829480400L, 9223359275528563201L);
        x = marked(table(3, 3, 19, 14, 2, 1, 20, 14, 10, 17, 15), 2, 2, 0, 0, 0, 1, 1, 1, 2);
        fitted(x, 2, 3, 2, 2);
        fitted(x, 0, 2, 3, 2);
        fitted(x, 2, 3, 2, 1);
        // 9223512968714586997 by 1604436088341478752: a little too much.
        crossIs(x, 0, 1, 0, 2, NO, NO);
        crossIs(x, 1, 0, 0, 2, NO, NO);
        x = marked(table(2, 3, 6, 1, 16, 19, 16, 7), 2, 0, 1, 1, 2, 0);
        fitted(x, 2, 2, 2, 3);
        fitted(x, 1, 3, 3, 2);
        fitted(x, 2, 1, 2, 2);
        // 18447174941851394048, which wraps around to a number above 0.
        crossIs(x, 0, 1, 2, 1, NO, NO);
        crossIs(x, 1, 0, 2, 1, NO, NO);
    }

    private static void crossCancelled() {
        terms("times what it has in k, l by what it has in k, j: a fraction in lowest terms");
        RakeTables x = marked(table(2, 3, 10, 9, 4, 10, 10, 9), 2, 0, 1, 1, 0, 2);
        fitted(x, 1, 2, 1, 3);
        fitted(x, 0, 3, 3);
        fitted(x, 1, 1, 2, 1);
        fitted(x, 2, 3, 3, 2);
        // Not cancelled it has 952474480435073323779480 above the line.
        crossIs(x, 0, 1, 2, 0, 975948385801L, 433755277201L);
        crossIs(x, 1, 1, 0, 2, 1, 1);
        crossIs(x, 0, 1, 2, 2, 1, 1);
        crossIs(table(2, 2, 20, 20, 20, 20), 0, 1, 0, 1, 1, 1);
        crossIs(table(2, 2, 20, 1, 1, 20), 0, 1, 0, 1, 400, 1);
    }

    private static void ordersTooLong() {
        terms("those of one CELL being alike (NO: it is no long).");
        due("the most there are", table(1, 3, 19, 19, 8).orders(), 9222739180251597000L);
        due("the least that is no long", table(3, 3, 3, 3, 3, 3, 3, 3, 3, 3, 1).orders(), NO);
        due("one that wraps around to above 0", table(3, 3, 4, 3, 3, 3, 3, 3, 3, 3, 1).orders(), NO);
        due("another", table(3, 3, 4, 4, 4, 4, 3, 2, 2, 2, 1).orders(), NO);
        due("twenty different ones", table(3, 3, 20, 20, 20, 20, 20, 20, 20, 20, 20).orders(), NO);
        due("the cells' order doesn't matter", table(1, 3, 8, 19, 19).orders(), 9222739180251597000L);
    }

    private static void ordersOfNone() {
        terms("ORDERS: in how many orders all COUNTED things can stand,");
        due("none", table(2, 2, 0, 0, 0, 0).orders(), 1);
        due("one", table(2, 2, 0, 0, 0, 1).orders(), 1);
        due("all alike", table(2, 2, 0, 20, 0, 0).orders(), 1);
        due("one other", table(2, 2, 0, 20, 1, 0).orders(), 21);
        due("nine", table(3, 3).orders(), 362880);
    }

    private static void ranksOfLikeOnes() {
        terms("RANKS: CELLS by what the TABLE has, the greatest first, of several the first.");
        RakeTables x = table(3, 3, 0, 2, 1, 2, 0, 1, 1, 2, 0);
        int[] ranks = {1, 10, 21, 2, 12, 20, 0, 11, 22};
        for (int k = 0; k < 9; k++) due("rank(" + k + ")", x.rank(k), ranks[k]);
        RakeTables near = table(2, 2, 20, 19, 19, 18);
        near.fit(0);
        // 200/39 190/39 | 190/37 180/37: 200/39 is 7400/1443, 190/37 is 7410/1443.
        int[] close = {10, 0, 1, 11};
        for (int k = 0; k < 4; k++) due("near rank(" + k + ")", near.rank(k), close[k]);
    }

    // ---- terms 2: seen, odds, means

    private static void termsOfSeen() {
        seenFiveRows();
        fittingFrom0To20();
        fittingOneRound();
        fittingWithoutRound();
        fittingWithoutRounded();
        fittingNone();
        fittingAllOfSeen();
        oddsFrom0To9();
        oddsAtLeastThatCount();
        oddsWithoutRounded();
        meansOfNone();
    }

    private static void seenFiveRows() {
        terms("SEEN told by hand: a CELL, a whole number (5 rows at most).");
        RakeTables x = new RakeTables();
        for (int n = 1; n <= 5; n++) due("see", x.see(1, 1, 5), n);
        due("a sixth", x.see(1, 1, 6), FULL);
        due("as many", x.count(0), 5);
        due("the sixth isn't looked at", x.fitting(0, 0, 0) > 0 ? 1 : 0, 1);
    }

    private static void fittingFrom0To20() {
        terms("FITTING of a CELL: how many COUNTS 0 .. 20 there are by which,");
        RakeTables x = margins(table(1, 1, 4), 0, 7);
        due("all", x.fitting(0, 0, 0), 21);
        due("the least", x.fitting(0, 0, 1), 0);
        x.see(0, 0, 0);
        due("0 alone", x.fitting(0, 0, 0), 1);
        due("the least", x.fitting(0, 0, 1), 0);
        x.see(-1, 0, 0);
        x.see(0, 0, 10);
        due("all but 0", x.fitting(0, 0, 0), 20);
        due("the least", x.fitting(0, 0, 1), 1);
        // By rows 60 n / (n + 20) and 30, then both times 60 by their sum: 30 by 20 alone, less by all others.
        RakeTables greatest = margins(margins(table(2, 2, 1, 20, 1, 1), 0, 60, 60), 1, 60, 60);
        greatest.see(0, 0, 30);
        due("20 alone", greatest.fitting(0, 0, 0), 1);
        due("the least", greatest.fitting(0, 0, 1), 20);
    }

    private static void fittingOneRound() {
        terms("were that its COUNT, the TABLE the COUNTS and one ROUND done");
        RakeTables x = margins(margins(table(1, 2, 2, 2), 0, 8), 1, 6, 2);
        x.see(0, 0, 6);
        due("behind one round", x.fitting(0, 1, 0), 21);
        x.see(-1, 0, 0);
        x.see(0, 0, 2);
        due("not ahead of it", x.fitting(0, 1, 0), 0);
        // Zeros in one corner: 1/3, 1/5, 1/7 and so on in the other one, nearer each round.
        RakeTables slow = margins(margins(table(2, 2, 1, 1, 0, 1), 0, 30, 30), 1, 30, 30);
        slow.see(0, 1, 10);
        due("10 behind the first round", slow.fitting(1, 0, 1), 0);
        slow.rounds(3);
        due("also when the table has had three", slow.fitting(1, 0, 1), 0);
        slow.see(-1, 0, 0);
        slow.see(0, 1, slow.rounded(0, 1));
        due("not what it has behind three", slow.fitting(1, 0, 1) == 0 ? 1 : 0, 0);
    }

    private static void fittingWithoutRound() {
        terms("one ROUND done (none, if there is none),");
        RakeTables x = table(3, 3, 20, 20, 19, 18, 18, 17, 16, 16, 15);
        margins(x, 0, 59, 50, 7);
        x.see(1, 1, 18);
        x.see(2, 2, 15);
        // By COUNT 8, 14 and 20 there is no ROUNDED, by the others the ROUND isn't there, so that the COUNTS stay.
        x.tell(0, 0, 7);
        due("no round", x.rounds(1), 0);
        roundedIs(x, 7, 20, 19, 18, 18, 17, 16, 16, 15);
        due("the counts fit", x.fitting(0, 0, 0), 18);
        due("the least", x.fitting(0, 0, 1), 0);
        RakeTables same = margins(margins(table(1, 2, 3, 1), 0, 4), 1, 3, 1);
        same.see(0, 0, 3);
        same.see(0, 1, 1);
        due("no round, nothing otherwise", same.fitting(0, 0, 0), 20);
        due("the least", same.fitting(0, 0, 1), 1);
    }

    private static void fittingWithoutRounded() {
        terms("all of SEEN were so in ROUNDED (not so, if there is none);");
        RakeTables x = aheadOfFine();
        // By COUNT 0, 1, 4, 5, 10, 13, 19 there is ROUNDED, with 6 in the middle.
        due("nothing seen", x.fitting(0, 0, 0), 7);
        due("the least", x.fitting(0, 0, 1), 0);
        x.see(1, 1, 6);
        due("seen", x.fitting(0, 0, 0), 7);
        x.see(0, 0, 5);
        due("two of them", x.fitting(0, 0, 0), 2);
        due("the least", x.fitting(0, 0, 1), 4);
        x.see(-1, 0, 0);
        due("by COUNT 0 and 10 of another one", x.fitting(1, 1, 0), 2);
    }

    private static void fittingNone() {
        terms("the least (-5: none).");
        RakeTables x = new RakeTables();
        x.see(0, 0, 60);
        due("how many", x.fitting(1, 1, 0), 0);
        due("the least", x.fitting(1, 1, 1), NOT_ANY);
    }

    private static void fittingAllOfSeen() {
        terms("all of SEEN were so in ROUNDED");
        RakeTables x = margins(margins(table(1, 2, 1, 1), 0, 5), 1, 3, 4);
        x.see(0, 0, 3);
        x.see(0, 1, 4);
        due("both", x.fitting(0, 0, 0), 20);
        for (int n = 3; n <= 5; n++) due("see", x.see(0, 1, n == 5 ? 3 : 4), n);
        due("all but the last", x.fitting(0, 0, 0), 0);
        x.see(-1, 0, 0);
        x.see(0, 0, 2);
        x.see(0, 1, 4);
        due("all but the first", x.fitting(0, 0, 0), 0);
    }

    private static void oddsAre(RakeTables x, int i, int j, long above, long below) {
        due("odds above", x.odds(i, j, 0), above);
        due("odds below", x.odds(i, j, 1), below);
    }

    private static void oddsFrom0To9() {
        terms("ODDS of a CELL: were its COUNT 0, 1, .. 9, each alike likely:");
        int[] aboves = {1, 1, 3, 2, 1, 3, 7, 4, 9, 1, 1};
        int[] belows = {10, 5, 10, 5, 2, 5, 10, 5, 10, 1, 1};
        for (int margin = 0; margin <= 10; margin++) {
            RakeTables x = margins(margins(table(1, 1, 20), 0, 60), 1, margin);
            oddsAre(x, 0, 0, aboves[margin], belows[margin]);
        }
    }

    private static void oddsAtLeastThatCount() {
        terms("how likely it has, behind one ROUND from there likewise, at least that COUNT in ROUNDED:");
        // 0 stays 0; n becomes 5, whatever else there is.
        RakeTables x = margins(table(2, 1, 4, 4), 0, 5, 5);
        oddsAre(x, 0, 0, 3, 5);
        x.rounds(1);
        x.see(0, 0, 1);
        oddsAre(x, 0, 0, 3, 5);
        // No round by 3, as nothing would be otherwise: it has 3.
        oddsAre(margins(margins(table(1, 1, 3), 0, 3), 1, 3), 0, 0, 2, 5);
    }

    private static void oddsWithoutRounded() {
        terms("behind one ROUND from there likewise,");
        // By COUNT 0, 1, 4, 5 there is ROUNDED: 0, 2, 5, 5.
        oddsAre(aheadOfFine(), 0, 0, 2, 5);
        // By COUNT 0 alone.
        oddsAre(aheadOfFine(), 1, 1, 1, 10);
    }

    private static void meansOfNone() {
        terms("MEAN: all COUNTS together, by how many CELLS there are: a fraction in lowest terms.");
        int[][] counts = {{0, 0, 0}, {0, 0, 1}, {0, 1, 2}, {20, 20, 20}, {20, 20, 19}};
        int[][] means = {{0, 1}, {1, 3}, {1, 1}, {20, 1}, {59, 3}};
        for (int c = 0; c < counts.length; c++) {
            RakeTables x = table(1, 3, counts[c]);
            due("above", x.mean(0), means[c][0]);
            due("below", x.mean(1), means[c][1]);
        }
    }

    // ---- terms 2: events, books

    private static void termsOfEvents() {
        eventsEightRows();
        marginsUpTo60();
        countIsZero();
        allRowsAre();
        afterAllOfIt();
        bookEightRows();
        lookedAtTheFirst();
    }

    private static void eventsEightRows() {
        terms("3 all MARGINS of ROWS are n; 8 rows at most):");
        RakeTables x = new RakeTables();
        for (int n = 1; n <= 8; n++) due("event", x.event(1, 0), n);
        due("a ninth", x.event(1, 0), FULL);
        due("as many", x.count(1), 8);
        due("the ninth doesn't happen", x.after(2), 8);
    }

    private static void marginsUpTo60() {
        terms("1 MARGIN of ROW n is 1 more; 2 of COLUMN n (60 at most, both);");
        RakeTables x = margins(margins(table(3, 3), 0, 0, 58, 60), 1, 0, 58, 60);
        long[] more = {1, 1, 0};
        for (int k = 0; k < 3; k++) {
            x.event(-1, 0);
            x.event(1, k);
            due("row " + k, x.after(2), more[k]);
            x.event(2, k);
            due("row and column " + k, x.after(2), 0);
            x.event(-1, 0);
            x.event(2, k);
            due("column " + k, x.after(2), -more[k]);
        }
        x.event(-1, 0);
        for (int n = 0; n < 4; n++) x.event(1, 1);
        due("58 and four times 1", x.after(2), 2);
        for (int n = 0; n < 4; n++) x.event(2, 1);
        due("columns likewise", x.after(2), 0);
        due("margins stay", x.marginOf(0, 1) + x.marginOf(1, 1), 116);
    }

    private static void countIsZero() {
        terms("what happens (0 COUNT of CELL n (10 i + j) is 0;");
        for (int c = 0; c < 9; c++) {
            RakeTables x = margins(margins(table(3, 3), 0, 0, 0, 0), 1, 0, 0, 0);
            for (int j = 0; j < 3; j++) x.tell(c / 3, j, j == c % 3 ? 20 : 0);
            x.margin(0, c / 3, 5);
            x.margin(1, c % 3, 5);
            due("possible ahead", x.after(0), 1);
            due("event", x.event(0, 10 * (c / 3) + c % 3), 1);
            due("not possible behind", x.after(0), 0);
            due("its row", x.after(1), 1 << c / 3);
            due("again, a count of 0 is 0", x.event(0, 10 * (c / 3) + c % 3), 2);
            due("its row", x.after(1), 1 << c / 3);
            due("the count stays", x.of(c / 3, c % 3, 0), 20);
        }
    }

    private static void allRowsAre() {
        terms("3 all MARGINS of ROWS are n;");
        for (int rows = 1; rows <= 3; rows++) {
            RakeTables x = new RakeTables();
            x.size(rows, 1);
            x.margin(1, 0, 0);
            due("event 60", x.event(3, 60), 1);
            due("all 60", x.after(2), 60 * rows);
            x.event(1, 0);
            due("60 at most", x.after(2), 60 * rows);
            x.event(3, 0);
            due("all 0", x.after(2), 0);
            due("possible", x.after(0), 1);
            x.event(1, rows - 1);
            due("one of them 1", x.after(2), 1);
            due("which", x.after(1), 1 << rows - 1);
        }
    }

    private static void afterAllOfIt() {
        terms("AFTER, behind all of it: POSSIBLE; FORBIDS; all MARGINS of ROWS less all of COLUMNS.");
        RakeTables x = new RakeTables();
        due("nothing happens: possible", x.after(0), 1);
        due("nothing happens: forbids", x.after(1), 0);
        due("nothing happens: less", x.after(2), 0);
        margins(x, 1, 60, 60);
        x.event(3, 0);
        due("below 0", x.after(2), -120);
        due("forbids none", x.after(1), 0);
        due("not possible", x.after(0), 0);
        x.event(3, 60);
        for (int n = 0; n < 5; n++) x.event(2, 0);
        due("the last of eight", x.event(0, 0), 8);
        due("rows 60 each", x.after(2), 0);
        due("possible by the other cells", x.after(0), 1);
        x.tell(1, 0, 0);
        due("the eighth happens, too", x.after(1), 3);
        due("ahead of it none forbids", x.told(6), 0);
    }

    private static void bookEightRows() {
        terms("A BOOK told by hand: CELLS, whole numbers (8 rows at most):");
        RakeTables x = new RakeTables();
        for (int n = 1; n <= 8; n++) due("book", x.book(1, 1, 1), n);
        due("a ninth", x.book(1, 1, 2), FULL);
        due("as many", x.count(2), 8);
        due("the ninth isn't looked at", x.looked(), NOT_ANY);
    }

    private static void lookedAtTheFirst() {
        terms("LOOKED at: the number (from 0) of the first of these rows that is otherwise in ROUNDED (-5: none).");
        for (int row = 0; row < 8; row++) {
            RakeTables x = table(2, 2, 0, 20, 3, 4);
            int[] counts = {0, 20, 3, 4};
            for (int n = 0; n < 8; n++) x.book(n % 4 / 2, n % 2, counts[n % 4]);
            due("none is", x.looked(), NOT_ANY);
            x.book(-1, 0, 0);
            for (int n = 0; n < 8; n++) x.book(n % 4 / 2, n % 2, counts[n % 4] + (n >= row ? 1 : 0));
            due("the first of them", x.looked(), row);
        }
        RakeTables x = new RakeTables();
        due("an empty book", x.looked(), NOT_ANY);
        x.book(0, 0, 5);
        due("ahead of a round", x.looked(), 0);
        x.rounds(1);
        due("behind it", x.looked(), NOT_ANY);
    }

    // ---- terms 2: the image

    private static void termsOfTheImage() {
        imageOfEach();
        imageIsItsOwn();
        imageWithoutTheRest();
    }

    private static void broughtBack(String what, ToLongFunction<RakeTables> change) {
        due("undo of " + what, behind(Boundary::pictured, change).get().undo(), 6);
        Supplier<RakeTables> undone = behind(behind(Boundary::pictured, change), RakeTables::undo);
        alike("all is as it was ahead of " + what, undone, Boundary::pictured);
    }

    private static void imageOfEach() {
        terms("THE IMAGE: ROWS, COLUMNS, COUNTS, MARKS, MARGINS, THREE, the TABLE and its ROUNDS, SEEN, EVENTS, the BOOK.");
        broughtBack("nothing", x -> 0);
        Supplier<RakeTables> whenFull = behind(Boundary::full, RakeTables::image);
        alike("an image of all that can be told by hand", behind(whenFull, RakeTables::undo), whenFull);
        broughtBack("rows", x -> x.size(3, 3));
        broughtBack("columns", x -> x.size(2, 1));
        broughtBack("size as it was", x -> x.size(2, 3));
        broughtBack("a count", x -> x.tell(1, 2, 20));
        broughtBack("the table", x -> x.fit(1));
        broughtBack("rounds", x -> x.rounds(1));
        broughtBack("begin", RakeTables::begin);
        broughtBack("a mark", x -> x.mark(1, 2, 1));
        for (int way = 0; way < 3; way++) {
            final int w = way;
            broughtBack("a margin of way " + way, x -> x.margin(w, 1, 60));
        }
        broughtBack("three", x -> x.three(false));
        broughtBack("seen", x -> x.see(1, 1, 1));
        broughtBack("seen, none", x -> x.see(-1, 0, 0));
        broughtBack("seen, others", x -> x.see(-1, 0, 0) + x.see(1, 0, 9) + x.see(0, 1, 3));
        broughtBack("events", x -> x.event(3, 60));
        broughtBack("events, none", x -> x.event(-1, 0));
        broughtBack("events, others", x -> x.event(-1, 0) + x.event(2, 1) + x.event(0, 0));
        broughtBack("the book", x -> x.book(0, 0, 1));
        broughtBack("the book, none", x -> x.book(-1, 0, 0));
        broughtBack("the book, others", x -> x.book(-1, 0, 0) + x.book(1, 0, 60) + x.book(0, 1, 60));
        broughtBack("a text", x -> text(x, "s33;n229;k111;m0260;x"));
        broughtBack("an undo", RakeTables::undo);
    }

    private static void imageIsItsOwn() {
        terms("THE IMAGE: ROWS, COLUMNS,");
        alike("what is told behind an undo isn't in the image", BoundaryAskedTests::toldBehindAnUndo, Boundary::pictured);
        RakeTables x = pictured();
        x.size(1, 3);
        due("another image", x.image(), 3);
        x.size(3, 3);
        due("the last one is brought back", x.undo(), 3);
    }

    private static RakeTables toldBehindAnUndo() {
        RakeTables x = pictured();
        for (int n = 0; n < 3; n++) {
            x.size(3, 2);
            x.tell(0, 0, n);
            due("undo", x.undo(), 6);
            x.tell(0, 0, 9);
            x.mark(0, 0, 2);
            x.margin(0, 0, n);
            x.see(0, 1, n);
            x.event(1, 1);
            x.book(0, 1, n);
            x.rounds(1);
        }
        due("undo once more", x.undo(), 6);
        return x;
    }

    private static void imageWithoutTheRest() {
        terms("SEEN, EVENTS, the BOOK.");
        RakeTables x = pictured();
        x.feed('x');
        x.tape(0, 0, 3);
        x.image();
        x.feed(';');
        x.item(0, 2, 7);
        x.tape(1, 3, 60);
        x.undo();
        due("the text stays", x.count(3), 2);
        due("an item stays", x.peek(0, 2), 7);
        due("a tape stays", x.peek(1, 59), 0);
        x.feed('x');
        due("the text is read", x.read(), 2);
        x.undo();
        due("the text doesn't come back", x.count(3), 0);
    }
}
