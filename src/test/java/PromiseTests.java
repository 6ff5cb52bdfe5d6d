/** For each promise of ../shared/DOC.md: ordinary inputs, the edges that it names, wrong inputs; worked out by hand. */
public final class PromiseTests {
    private static final long NO = Long.MIN_VALUE;
    private static final int MIN = Integer.MIN_VALUE, MAX = Integer.MAX_VALUE;
    private static int wrong = 0;
    private static int looked = 0;

    private static void due(String call, long got, long want) {
        looked++;
        if (got == want) return;
        wrong++;
        System.out.println(call + " answered " + got + ", due is " + want);
    }

    public static void main(String[] args) {
        promise1();
        promise2();
        promise3();
        promise4();
        promise5();
        promises6to8();
        promise9();
        promise10Done();
        promise10Faults();
        promise10Zeros();
        promise11();
        promise12();
        promise13();
        promise14();
        promise15();
        promise16();
        promise17();
        promise18();
        promise18Forbids();
        edgesOfFine();
        promise19();
        promise19Without();
        promise20();
        promise21();
        promise21TooLong();
        promise22();
        promise23();
        promise24();
        promise25();
        promise26();
        promise27();
        promise28();
        promise29();
        promise29Cells();
        promises30and31();
        promise32();
        promises33and34();
        promise34ByHand();
        promise35();
        promise36();
        promises37and38();
        promise39();
        constants();
        System.out.println(wrong == 0 ? "all " + looked + " answers are as due" : wrong + " answers are not as due");
        if (wrong != 0) System.exit(1);
    }

    /** Rows of counts, one behind the other; margins stay 10. */
    private static RakeTables table(int rows, int columns, int... counts) {
        RakeTables x = new RakeTables();
        x.size(rows, columns);
        for (int c = 0; c < counts.length; c++) x.tell(c / columns, c % columns, counts[c]);
        return x;
    }

    private static RakeTables margins(RakeTables x, int way, int... values) {
        for (int k = 0; k < values.length; k++) x.margin(way, k, values[k]);
        return x;
    }

    /** Behind one round the rows' sums together, and the sum of mark 0, are fine; each line's of the others isn't. */
    private static RakeTables nearlyFine() {
        RakeTables x = table(3, 3, 3, 0, 5, 4, 2, 0, 2, 1, 6);
        margins(margins(x, 0, 12, 7, 11), 1, 13, 9, 8);
        x.mark(0, 1, 1);
        x.mark(1, 2, 2);
        x.mark(2, 0, 1);
        x.rounds(1);
        return x;
    }

    /** Tells margins of a way and fits by it. */
    private static int fitted(RakeTables x, int way, int... values) {
        return margins(x, way, values).fit(way);
    }

    /** Row by row. */
    private static RakeTables marked(RakeTables x, int... marks) {
        int columns = x.told(1);
        for (int c = 0; c < marks.length; c++) x.mark(c / columns, c % columns, marks[c]);
        x.three(true);
        return x;
    }

    private static int text(RakeTables x, String text) {
        for (int p = 0; p < text.length(); p++) due("feed of " + text, x.feed(text.charAt(p)), p + 1);
        return x.read();
    }

    private static void cellIs(RakeTables x, int i, int j, long above, long below) {
        due("cell(" + i + ", " + j + ", 0)", x.cell(i, j, 0), above);
        due("cell(" + i + ", " + j + ", 1)", x.cell(i, j, 1), below);
    }

    private static void roundedIs(RakeTables x, int... values) {
        int columns = x.told(1);
        for (int c = 0; c < values.length; c++) {
            due("rounded of cell " + c, x.rounded(c / columns, c % columns), values[c]);
        }
    }

    private static void promise1() {
        RakeTables x = new RakeTables();
        int[] told = {2, 2, 0, 0, 0, 1, 0, 4};
        for (int what = 0; what < told.length; what++) due("1: told(" + what + ")", x.told(what), told[what]);
        for (int i = 0; i < 2; i++) {
            for (int j = 0; j < 2; j++) {
                due("1: of, count", x.of(i, j, 0), 1);
                due("1: of, mark", x.of(i, j, 1), 0);
                cellIs(x, i, j, 1, 1);
            }
        }
        for (int k = 0; k < 2; k++) {
            due("1: margin of a row", x.marginOf(0, k), 10);
            due("1: margin of a column", x.marginOf(1, k), 10);
        }
        for (int k = 0; k < 3; k++) due("1: margin of a mark", x.marginOf(2, k), 10);
        for (int what = 0; what < 4; what++) due("1: count(" + what + ")", x.count(what), 0);
        for (int t = 0; t < 6; t++) due("1: a tape holds nothing", x.item(t, 0, 1), -11);
        due("1: undo", x.undo(), -3);
    }

    private static void promise2() {
        RakeTables x = new RakeTables();
        x.tell(0, 1, 7);
        x.mark(1, 0, 2);
        margins(margins(margins(x, 0, 1, 2), 1, 3, 4), 2, 5, 6, 7);
        x.three(true);
        x.feed('x');
        x.see(0, 0, 1);
        x.event(1, 0);
        x.book(0, 0, 1);
        int[][] wrongs = {{0, 1}, {1, 0}, {4, 1}, {1, 4}, {-1, 2}, {2, -1}, {MAX, 2}, {2, MIN}};
        for (int[] w : wrongs) due("2: size refused", x.size(w[0], w[1]), -2);
        due("2: a refused size changes nothing", x.count(0) + x.count(1) + x.count(2), 3);
        due("2: nor counts", x.of(0, 1, 0), 7);
        due("2: size(3, 2)", x.size(3, 2), 6);
        due("2: rows", x.told(0), 3);
        due("2: columns", x.told(1), 2);
        due("2: all counts", x.told(7), 6);
        due("2: three stays", x.told(2), 1);
        due("2: mark", x.of(1, 0, 1), 0);
        for (int k = 0; k < 3; k++) due("2: margin of a row", x.marginOf(0, k), 10);
        for (int k = 0; k < 2; k++) due("2: margin of a column", x.marginOf(1, k), 10);
        for (int k = 0; k < 3; k++) due("2: margin of a mark", x.marginOf(2, k), 10);
        for (int what = 0; what < 3; what++) due("2: count(" + what + ")", x.count(what), 0);
        due("2: the text stays", x.count(3), 1);
        due("2: one round", x.rounds(1), 1);
        due("2: the same size again", x.size(3, 2), 6);
        due("2: no rounds then", x.told(3), 0);
        cellIs(x, 2, 1, 1, 1);
        due("2: size(1, 1)", x.size(1, 1), 1);
        due("2: size(3, 3)", x.size(3, 3), 9);
        due("2: what was out of sight is told anew, too", x.told(7), 9);
    }

    private static void promise3() {
        RakeTables x = new RakeTables();
        due("3: tell", x.tell(1, 0, 20), 1);
        due("3: tell", x.tell(1, 0, 0), 20);
        due("3: tell", x.tell(1, 0, 5), 0);
        due("3: of", x.of(1, 0, 0), 5);
        due("3: of another", x.of(0, 1, 0), 1);
        due("3: above 20", x.tell(1, 0, 21), -2);
        due("3: below 0", x.tell(1, 0, -1), -2);
        due("3: no row", x.tell(2, 0, 21), -1);
        due("3: no column", x.tell(0, 2, -1), -1);
        due("3: no cell", x.tell(-1, 0, 1), -1);
        due("3: no cell", x.tell(0, MIN, 1), -1);
        due("3: what is refused changes nothing", x.of(1, 0, 0), 5);
        x.rounds(1);
        due("3: a round", x.told(3), 1);
        due("3: refused", x.tell(0, 0, 21), -2);
        due("3: leaves the rounds", x.told(3), 1);
        due("3: as it stays", x.tell(0, 0, 1), 1);
        due("3: takes the rounds", x.told(3), 0);
        cellIs(x, 1, 0, 5, 1);
    }

    private static void promise4() {
        RakeTables x = new RakeTables();
        due("4: mark", x.mark(0, 1, 2), 0);
        due("4: mark", x.mark(0, 1, 1), 2);
        due("4: of", x.of(0, 1, 1), 1);
        due("4: of another", x.of(1, 1, 1), 0);
        due("4: above 2", x.mark(0, 1, 3), -2);
        due("4: below 0", x.mark(0, 1, -1), -2);
        due("4: no row", x.mark(2, 1, 3), -1);
        due("4: no column", x.mark(0, -1, 0), -1);
        due("4: unchanged", x.of(0, 1, 1), 1);
        x.rounds(1);
        due("4: mark behind a round", x.mark(0, 0, 2), 0);
        due("4: leaves the table", x.told(3), 1);
        cellIs(x, 0, 0, 5, 1);
    }

    private static void promise5() {
        RakeTables x = new RakeTables();
        for (int way = 0; way < 3; way++) {
            due("5: margin", x.margin(way, 1, 60), 10);
            due("5: margin", x.margin(way, 1, 0), 60);
            due("5: marginOf", x.marginOf(way, 1), 0);
            due("5: marginOf another", x.marginOf(way, 0), 10);
            due("5: above 60", x.margin(way, 1, 61), -2);
            due("5: below 0", x.margin(way, 1, -1), -2);
            due("5: no line", x.margin(way, -1, 1), -1);
            due("5: no line", x.margin(way, 3, 61), -1);
        }
        due("5: no third row", x.margin(0, 2, 1), -1);
        due("5: no third column", x.margin(1, 2, 1), -1);
        due("5: a third mark", x.margin(2, 2, 1), 10);
        due("5: no way", x.margin(3, 0, 61), -1);
        due("5: no way", x.margin(-1, 0, 1), -1);
        due("5: unchanged", x.marginOf(0, 1), 0);
        x.margin(0, 1, 10);
        x.rounds(1);
        x.margin(0, 0, 9);
        due("5: leaves the table", x.told(3), 1);
    }

    private static void promises6to8() {
        RakeTables x = new RakeTables();
        due("6: three", x.three(true), 0);
        due("6: told", x.told(2), 1);
        due("6: three", x.three(true), 1);
        due("6: three", x.three(false), 1);
        due("6: three", x.three(false), 0);
        x.tell(1, 0, 3);
        x.mark(0, 1, 2);
        due("7: count", x.of(1, 0, 0), 3);
        due("7: mark", x.of(0, 1, 1), 2);
        due("7: no what", x.of(0, 1, 2), -1);
        due("7: no what", x.of(0, 1, -1), -1);
        due("7: no row", x.of(2, 1, 0), -1);
        due("7: no column", x.of(1, 2, 0), -1);
        due("7: no cell", x.of(-1, MAX, 0), -1);
        x.size(1, 3);
        x.margin(0, 0, 4);
        x.margin(1, 2, 5);
        x.margin(2, 2, 6);
        due("8: a row", x.marginOf(0, 0), 4);
        due("8: a column", x.marginOf(1, 2), 5);
        due("8: a mark", x.marginOf(2, 2), 6);
        due("8: no second row", x.marginOf(0, 1), -1);
        due("8: no fourth column", x.marginOf(1, 3), -1);
        due("8: no fourth mark", x.marginOf(2, 3), -1);
        due("8: no line", x.marginOf(0, -1), -1);
        due("8: no way", x.marginOf(3, 0), -1);
        due("8: no way", x.marginOf(MIN, 0), -1);
    }

    private static void promise9() {
        RakeTables x = new RakeTables();
        due("9: the least sign", x.feed(0), 1);
        due("9: the greatest sign", x.feed(127), 2);
        due("9: above", x.feed(128), -2);
        due("9: below", x.feed(-1), -2);
        due("9: count", x.count(3), 2);
        for (int n = 3; n <= 100; n++) due("9: feed", x.feed('x'), n);
        due("9: full", x.feed('x'), -4);
        due("9: bad ahead of full", x.feed(128), -2);
        due("9: count", x.count(3), 100);
        due("9: a fault", x.read(), -10);
        due("9: empty then", x.feed('x'), 1);
    }

    private static void promise10Done() {
        RakeTables x = new RakeTables();
        due("10: three is turned", text(x, "x"), 1);
        due("10: told", x.told(2), 1);
        due("10: empty then", x.count(3), 0);
        x.see(0, 0, 1);
        x.event(1, 0);
        x.book(0, 0, 1);
        due("10: size, counts, marks, margins", text(x, "s23;n0220;n107;k111;m0100;m129;m2260"), 7);
        due("10: rows", x.told(0), 2);
        due("10: columns", x.told(1), 3);
        due("10: three stays", x.told(2), 1);
        for (int what = 0; what < 3; what++) due("10: a size clause empties", x.count(what), 0);
        due("10: two digits", x.of(0, 2, 0), 20);
        due("10: one digit", x.of(1, 0, 0), 7);
        due("10: mark", x.of(1, 1, 1), 1);
        due("10: margin of a row", x.marginOf(0, 1), 0);
        due("10: margin of a column", x.marginOf(1, 2), 9);
        due("10: margin of a mark", x.marginOf(2, 2), 60);
        due("10: refused ones are not done", text(x, "n0021;n209;k003;k300;m0061;m300;m021;s03;s41;n0005"), 1);
        due("10: the last was", x.of(0, 0, 0), 5);
        due("10: nothing else", x.told(7), 5 + 1 + 20 + 7 + 1 + 1);
        x.rounds(1);
        due("10: marks, margins leave the table", text(x, "k000;m0010;x;x;n0021"), 4);
        due("10: a round", x.told(3), 1);
        due("10: counts don't", text(x, "n005"), 1);
        due("10: no round", x.told(3), 0);
        cellIs(x, 0, 2, 20, 1);
        due("10: one behind the other", text(x, "n001;s22;n008;s11;n003"), 5);
        due("10: the last size", x.told(7), 3);
        due("10: twelve clauses", text(x, "x;x;x;x;x;x;x;x;x;x;x;s22"), 12);
        due("10: turned eleven times", x.told(2), 0);
    }

    private static void promise10Faults() {
        String[] texts = {"", "y", "X", " x", "xx", "x;", "x;;", ";", "x ;x", "s", "s3", "s3a", "s333", "n00", "n00;",
            "n0a1", "n00123", "n0012x", "k00", "k0012", "k0;", "m01", "m011x", "m01100", "m0110;", "m0110;z", "x;n005;q",
            "s22;n0", "x;x;x;x;x;x;x;x;x;x;x;x;", "x;x;x;x;x;x;x;x;x;x;x;x;x", "x;x;x;x;x;x;x;x;x;x;x;n00"};
        int[] faults = {0, 0, 0, 0, 1, 2, 2, 0, 1, 1, 2, 2, 3, 3, 3, 2, 5, 5, 3, 4, 2, 3, 4, 5, 6, 6, 7, 6, 23, 23, 25};
        for (int t = 0; t < texts.length; t++) {
            RakeTables x = new RakeTables();
            due("10: fault of " + texts[t], text(x, texts[t]), -10 - faults[t]);
            due("10: empty then", x.count(3), 0);
            due("10: nothing is done", x.told(2) + x.told(7), 4);
        }
    }

    private static void promise10Zeros() {
        RakeTables x = new RakeTables();
        due("10: done, though 0 was there", text(x, "n000;n005;m000;m0010;k000;k002"), 6);
        due("10: told", x.of(0, 0, 0), 5);
    }

    private static void promise11() {
        RakeTables x = new RakeTables();
        due("11: begin", x.begin(), 0);
        x.rounds(1);
        due("11: begin behind a round", x.begin(), 1);
        due("11: again", x.begin(), 0);
        cellIs(x, 0, 0, 1, 1);
        x.fit(0);
        due("11: a fit is no round", x.begin(), 0);
        cellIs(x, 0, 0, 1, 1);
    }

    private static void promise12() {
        RakeTables x = margins(margins(table(2, 2, 1, 2, 3, 4), 0, 6, 7), 1, 5, 8);
        due("12: no way", x.fit(3), -1);
        due("12: no way", x.fit(-1), -1);
        due("12: not three", x.fit(2), -3);
        due("12: by rows", x.fit(0), 2);
        cellIs(x, 0, 0, 2, 1);
        cellIs(x, 0, 1, 4, 1);
        cellIs(x, 1, 0, 3, 1);
        due("12: by columns, nothing otherwise", x.fit(1), 0);
        x.margin(1, 0, 4);
        due("12: by columns", x.fit(1), 2);
        cellIs(x, 0, 0, 8, 5);
        cellIs(x, 1, 0, 12, 5);
        due("12: no round", x.told(3), 0);
        RakeTables zeros = margins(table(2, 2, 0, 0, 3, 0), 0, 9, 0);
        due("12: a line of zeros stays, a margin of 0 takes all", zeros.fit(0), 1);
        cellIs(zeros, 0, 0, 0, 1);
        cellIs(zeros, 1, 0, 0, 1);
        RakeTables marks = margins(table(2, 2, 1, 2, 3, 4), 2, 5, 12, 7);
        marks.mark(0, 1, 1);
        marks.mark(1, 1, 1);
        marks.three(true);
        due("12: by marks", marks.fit(2), 4);
        cellIs(marks, 0, 0, 5, 4);
        cellIs(marks, 1, 0, 15, 4);
        cellIs(marks, 0, 1, 4, 1);
        cellIs(marks, 1, 1, 8, 1);
        RakeTables fine = nearlyFine();
        due("12: not three", fine.fit(2), -3);
        fine.three(true);
        due("12: a sum is fine", fine.fit(2), -6);
        cellIs(fine, 0, 0, 1053, 209);
        due("12: what a cell would become is fine", nearlyFine().fit(0), -6);
    }

    private static void promise13() {
        RakeTables x = margins(margins(table(2, 2, 1, 2, 3, 4), 0, 6, 7), 1, 5, 8);
        due("13: none asked", x.rounds(0), 0);
        due("13: below 0", x.rounds(-1), -2);
        due("13: above 20", x.rounds(21), -2);
        due("13: till there is none", x.rounds(20), 1);
        due("13: rounds", x.told(3), 1);
        due("13: no more", x.rounds(1), 0);
        due("13: rounds", x.told(3), 1);
        x.margin(0, 0, 5);
        x.margin(1, 0, 4);
        due("13: one of them", x.rounds(1), 1);
        due("13: two in all", x.told(3), 2);
        RakeTables back = margins(new RakeTables(), 1, 2, 2);
        due("13: a round that comes back is none", back.rounds(3), 0);
        due("13: no round", back.told(3), 0);
        cellIs(back, 0, 0, 1, 1);
        due("13: the first of its fits alone is one", back.fit(0), 4);
        RakeTables fine = nearlyFine();
        due("13: one of its fits isn't there", fine.rounds(20), 0);
        due("13: one round", fine.told(3), 1);
        cellIs(fine, 2, 2, 352, 89);
        RakeTables marks = new RakeTables();
        marks.mark(0, 0, 1);
        marks.three(true);
        due("13: marks, too", marks.rounds(1), 1);
        cellIs(marks, 0, 0, 10, 1);
        cellIs(marks, 0, 1, 10, 3);
        RakeTables spoilt = nearlyFine();
        spoilt.begin();
        spoilt.three(true);
        due("13: by marks there is none", spoilt.rounds(1), 0);
        cellIs(spoilt, 0, 0, 3, 1);
        due("13: no round", spoilt.told(3), 0);
    }

    private static void promise14() {
        RakeTables x = table(1, 2, 1, 2);
        x.fit(0);
        cellIs(x, 0, 0, 10, 3);
        cellIs(x, 0, 1, 20, 3);
        due("14: no row", x.cell(1, 0, 0), NO);
        due("14: no column", x.cell(0, 2, 0), NO);
        due("14: no cell", x.cell(-1, 0, 0), NO);
        due("14: no part", x.cell(0, 0, 2), NO);
        due("14: no part", x.cell(0, 0, -1), NO);
        RakeTables lowest = margins(table(1, 2, 2, 2), 0, 6);
        lowest.fit(0);
        cellIs(lowest, 0, 0, 3, 1);
        cellIs(table(1, 1, 0), 0, 0, 0, 1);
    }

    private static void promise15() {
        RakeTables x = table(2, 3, 1, 2, 3, 4, 5, 6);
        x.mark(0, 1, 2);
        x.mark(1, 2, 2);
        due("15: a row", x.sum(0, 1, 0), 15);
        due("15: a column", x.sum(1, 2, 0), 9);
        due("15: a mark, though not three", x.sum(2, 2, 0), 8);
        due("15: a mark of none", x.sum(2, 1, 0), 0);
        due("15: below the line", x.sum(2, 1, 1), 1);
        x.fit(1);
        due("15: 2 + 20/7 + 10/3, above", x.sum(0, 0, 0), 172);
        due("15: below", x.sum(0, 0, 1), 21);
        due("15: no way", x.sum(3, 0, 0), NO);
        due("15: no way", x.sum(-1, 0, 0), NO);
        due("15: no row", x.sum(0, 2, 0), NO);
        due("15: no column", x.sum(1, 3, 0), NO);
        due("15: no mark", x.sum(2, 3, 0), NO);
        due("15: no line", x.sum(0, -1, 0), NO);
        due("15: no part", x.sum(0, 0, 2), NO);
        due("15: no part", x.sum(0, 0, -1), NO);
        RakeTables fine = nearlyFine();
        due("15: it is fine", fine.sum(2, 0, 0), NO);
        due("15: it is fine", fine.sum(2, 0, 1), NO);
        due("15: this isn't", fine.sum(0, 2, 0), 529521);
        due("15: this isn't", fine.sum(0, 2, 1), 54112);
        RakeTables between = fineBetween();
        due("15: fine behind two, not behind all", between.sum(2, 0, 0), NO);
    }

    /** All have mark 0: their sum is fine behind some, and 30 (the columns' margins together) behind all. */
    private static RakeTables fineBetween() {
        RakeTables x = nearlyFine();
        x.mark(0, 1, 0);
        x.mark(1, 2, 0);
        x.mark(2, 0, 0);
        return x;
    }

    private static void promise16() {
        RakeTables x = margins(table(2, 2, 1, 2, 3, 4), 0, 5, 4);
        due("16: margin less sum", x.gap(0, 0, 0), 2);
        due("16: sum less margin", x.gap(0, 1, 0), 3);
        due("16: below the line", x.gap(0, 1, 1), 1);
        due("16: a column", x.gap(1, 1, 0), 4);
        due("16: a mark, though not three", x.gap(2, 0, 0), 0);
        due("16: of none", x.gap(2, 2, 0), 10);
        x.fit(0);
        due("16: 5/3 + 12/7 less 10, above", x.gap(1, 0, 0), 139);
        due("16: below", x.gap(1, 0, 1), 21);
        due("16: no gap", x.gap(0, 0, 0), 0);
        due("16: no gap, below the line", x.gap(0, 0, 1), 1);
        due("16: no way", x.gap(3, 0, 0), NO);
        due("16: no line", x.gap(0, 2, 0), NO);
        due("16: no line", x.gap(1, -1, 0), NO);
        due("16: no part", x.gap(0, 0, 2), NO);
        due("16: the sum is fine", nearlyFine().gap(2, 0, 1), NO);
    }

    private static void promise17() {
        RakeTables x = margins(margins(table(2, 2, 1, 2, 3, 4), 0, 3, 7), 1, 4, 6);
        due("17: none is farther, the first", x.farthest(), 0);
        x.margin(0, 1, 8);
        due("17: a row", x.farthest(), 1);
        x.margin(1, 0, 6);
        due("17: a column", x.farthest(), 10);
        x.margin(1, 1, 4);
        due("17: of several the first", x.farthest(), 10);
        x.margin(1, 1, 3);
        due("17: the second column", x.farthest(), 11);
        x.margin(2, 2, 60);
        due("17: no marks, if not three", x.farthest(), 11);
        x.three(true);
        due("17: marks", x.farthest(), 22);
        x.margin(2, 1, 60);
        due("17: the first mark of them", x.farthest(), 21);
        RakeTables fine = nearlyFine();
        due("17: a mark's sum doesn't matter, if not three", fine.farthest(), 1);
        fine.three(true);
        due("17: a mark's sum is fine", fine.farthest(), -6);
    }

    private static void promise18() {
        RakeTables x = margins(margins(table(2, 2, 1, 2, 3, 4), 0, 6, 7), 1, 5, 8);
        due("18: not settled", x.told(4), 0);
        due("18: all counts", x.told(7), 10);
        x.rounds(1);
        due("18: settled", x.told(4), 1);
        due("18: rounds", x.told(3), 1);
        due("18: counts, not the table", x.told(7), 10);
        x.three(true);
        due("18: three", x.told(2), 1);
        due("18: marks, too", x.told(4), 0);
        margins(x, 2, 13, 0, 0);
        due("18: settled", x.told(4), 1);
        due("18: possible", x.told(5), 1);
        x.margin(0, 0, 7);
        due("18: sums of margins unlike", x.told(5), 0);
        due("18: rows ask too much", x.told(6), 3);
        x.margin(0, 0, 5);
        due("18: too little", x.told(5), 0);
        due("18: forbids nothing", x.told(6), 0);
        due("18: no what", x.told(8), -1);
        due("18: no what", x.told(-1), -1);
        RakeTables fine = nearlyFine();
        due("18: not settled", fine.told(4), 0);
        fine.three(true);
        due("18: a sum is fine", fine.told(4), -6);
    }

    private static void promise18Forbids() {
        RakeTables x = margins(margins(table(3, 3, 1, 0, 0, 1, 0, 0, 1, 1, 1), 0, 4, 5, 9), 1, 8, 6, 4);
        due("18: two rows on one column", x.told(6), 3);
        due("18: not possible", x.told(5), 0);
        margins(x, 1, 9, 5, 4);
        due("18: just enough", x.told(6), 0);
        due("18: possible", x.told(5), 1);
        x.tell(2, 1, 0);
        due("18: a column of no count", x.told(5), 0);
        due("18: rows 1 and 2", x.told(6), 6);
        x.margin(0, 1, 3);
        due("18: all rows", x.told(6), 7);
        margins(x, 0, 4, 10, 4);
        due("18: one row ahead of two", x.told(6), 2);
        margins(x, 0, 10, 10, 10);
        due("18: the least bits", x.told(6), 1);
        margins(x, 0, 0, 0, 0);
        due("18: none", x.told(6), 0);
        RakeTables zero = margins(margins(table(2, 1, 0, 0), 0, 0, 0), 1, 0);
        due("18: margins of 0 need no count", zero.told(5), 1);
        due("18: told(6)", zero.told(6), 0);
        RakeTables outer = margins(margins(table(3, 2, 1, 0, 0, 1, 1, 0), 0, 4, 6, 5), 1, 8, 7);
        due("18: rows 0 and 2", outer.told(6), 5);
    }

    private static void edgesOfFine() {
        RakeTables x = table(3, 2, 18, 8, 6, 9, 16, 12);
        fitted(x, 0, 3, 3, 1);
        fitted(x, 1, 2, 1);
        due("fine: a sum with 999999 above isn't", x.sum(0, 1, 0), 999999);
        due("fine: nor below", x.sum(0, 1, 1), 836978);
        x = table(3, 2, 7, 8, 9, 8, 5, 19);
        fitted(x, 0, 1, 1, 1);
        fitted(x, 1, 1, 1);
        due("fine: a sum with 999999 below isn't", x.sum(0, 2, 1), 999999);
        due("fine: nor above", x.sum(0, 2, 0), 613870);
        x = table(2, 2, 5, 12, 3, 13);
        fitted(x, 1, 5, 3);
        fitted(x, 0, 3, 5);
        due("fine: a sum with 1000000 above is", x.sum(1, 0, 0), NO);
        due("fine: the other isn't", x.sum(1, 1, 0), 672616);
        x = marked(table(2, 3, 14, 3, 13, 7, 17, 12), 2, 1, 2, 2, 2, 2);
        fitted(x, 2, 1, 2, 1);
        fitted(x, 0, 1, 1);
        fitted(x, 1, 2, 2, 2);
        fitted(x, 2, 1, 1, 1);
        due("fine: a sum with 1000000 below is", x.sum(0, 1, 0), NO);
        due("fine: the other isn't", x.sum(1, 0, 1), 1875);
        x = table(3, 2, 11, 6, 20, 17, 13, 14);
        fitted(x, 0, 13, 17, 1);
        due("fine: a cell with 999999 isn't", fitted(x, 1, 7, 6), 6);
        cellIs(x, 0, 0, 999999, 307094);
        x = table(2, 2, 16, 9, 7, 20);
        fitted(x, 0, 17, 40);
        due("fine: a cell with 1000000 is", fitted(x, 1, 53, 50), -6);
        cellIs(x, 1, 1, 800, 27);
    }

    private static void promise19() {
        RakeTables x = table(1, 3, 1, 1, 1);
        x.fit(0);
        roundedIs(x, 3, 3, 4);
        RakeTables square = table(3, 3);
        square.fit(0);
        roundedIs(square, 3, 3, 4, 3, 4, 3, 4, 3, 3);
        RakeTables whole = table(2, 2, 1, 2, 3, 4);
        roundedIs(whole, 1, 2, 3, 4);
        due("19: no row", whole.rounded(2, 0), -1);
        due("19: no column", whole.rounded(0, 2), -1);
        due("19: no cell", whole.rounded(-1, 0), -1);
        RakeTables mixed = margins(table(2, 2, 1, 1, 1, 3), 0, 3, 2);
        mixed.fit(0);
        // 3/2 3/2 | 1/2 3/2: rows 3, 2, columns 2, 3, all 5.
        roundedIs(mixed, 1, 2, 1, 1);
        RakeTables down = margins(table(2, 1, 1, 1), 1, 1);
        down.fit(1);
        roundedIs(down, 0, 1);
        RakeTables total = margins(table(2, 2), 0, 1, 0);
        total.fit(0);
        total.margin(0, 0, 2);
        // 1/2 1/2 | 0 0: the row has to have 1, and so a column.
        roundedIs(total, 0, 1, 0, 0);
        RakeTables thirds = margins(table(3, 1, 1, 1, 1), 1, 2);
        thirds.fit(1);
        roundedIs(thirds, 0, 1, 1);
        RakeTables stays = margins(table(2, 3, 1, 1, 2, 1, 0, 1), 0, 2, 1);
        stays.fit(0);
        // 1/2 1/2 1 | 1/2 0 1/2: a whole one stays, else 0 0 2 | 1 0 0 were less; without column 0, 0 1 1 | 0 0 1.
        roundedIs(stays, 0, 1, 1, 1, 0, 0);
        RakeTables fine = nearlyFine();
        due("19: the rows' sums together are fine", fine.rounded(0, 0), -6);
        due("19: none ahead of fine", fine.rounded(3, 0), -1);
    }

    private static void promise19Without() {
        RakeTables columns = table(3, 3, 20, 20, 19, 18, 18, 17, 16, 16, 15);
        fitted(columns, 0, 60, 60, 60);
        due("19: columns' sums are fine", columns.rounded(0, 0), -6);
        due("19: rows' aren't", columns.sum(0, 2, 0), 60);
        due("12: no fit by them", columns.fit(1), -6);
        due("13: no round", columns.rounds(1), 0);
        due("17: no farthest", columns.farthest(), -6);
        due("18: not settled, nor otherwise", columns.told(4), -6);
        RakeTables rows = table(3, 3, 20, 18, 16, 20, 18, 16, 19, 17, 15);
        fitted(rows, 1, 60, 60, 60);
        due("19: rows' sums are fine", rows.rounded(0, 0), -6);
        due("19: columns' aren't", rows.sum(1, 2, 0), 60);
        due("12: no fit by them", rows.fit(0), -6);
        due("13: no round", rows.rounds(1), 0);
        due("17: no farthest", rows.farthest(), -6);
        rows.begin();
        due("19: anew", rows.rounded(0, 1), 18);
    }

    private static void promise20() {
        RakeTables x = table(3, 3);
        x.mark(0, 2, 1);
        x.mark(1, 1, 1);
        x.fit(0);
        due("20: a row", x.together(0, 1), 10);
        due("20: a column", x.together(1, 2), 10);
        due("20: a mark, though not three", x.together(2, 1), 8);
        due("20: the others", x.together(2, 0), 22);
        due("20: of none", x.together(2, 2), 0);
        due("20: no line", x.together(0, 3), -1);
        due("20: no line", x.together(1, -1), -1);
        due("20: no mark", x.together(2, 3), -1);
        due("20: no way", x.together(3, 0), -1);
        due("20: there is none", nearlyFine().together(1, 0), -6);
        due("20: none ahead of fine", nearlyFine().together(1, 3), -1);
        due("20: fine, though all of the line is there", nearlyFine().together(2, 2), -6);
    }

    private static void promise21() {
        RakeTables x = table(2, 3, 1, 2, 5, 3, 4, 0);
        due("21: above", x.cross(0, 1, 0, 1, 0), 2);
        due("21: below", x.cross(0, 1, 0, 1, 1), 3);
        due("21: the other way round", x.cross(1, 0, 0, 1, 0), 3);
        due("21: the other way round", x.cross(1, 0, 0, 1, 1), 2);
        due("21: a row with itself", x.cross(1, 1, 0, 1, 0), 1);
        due("21: a column with itself", x.cross(0, 1, 0, 0, 1), 1);
        due("21: 0 above", x.cross(0, 1, 0, 2, 0), 0);
        due("21: 1 below", x.cross(0, 1, 0, 2, 1), 1);
        due("21: by 0 in k, j", x.cross(0, 1, 2, 0, 0), NO);
        due("21: by 0 in i, l", x.cross(1, 0, 0, 2, 1), NO);
        due("21: by 0, 0 above, too", x.cross(1, 1, 2, 2, 0), NO);
        due("21: no row i", x.cross(2, 0, 0, 1, 0), NO);
        due("21: no row k", x.cross(0, 2, 0, 1, 0), NO);
        due("21: no column j", x.cross(0, 1, 3, 1, 0), NO);
        due("21: no column l", x.cross(0, 1, 0, -1, 0), NO);
        due("21: no part", x.cross(0, 1, 0, 1, 2), NO);
        due("21: no part", x.cross(0, 1, 0, 1, -1), NO);
        x.rounds(1);
        due("21: a round leaves it", x.cross(0, 1, 0, 1, 1), 3);
    }

    private static void promise21TooLong() {
        RakeTables x = marked(table(3, 2, 7, 2, 16, 9, 17, 7), 1, 0, 2, 1, 0, 2);
        fitted(x, 2, 1, 1, 2);
        fitted(x, 0, 3, 2, 1);
        fitted(x, 2, 3, 1, 1);
        // 2222547406047143945 above, 16522692651349991424 below.
        due("21: no long below, above", x.cross(0, 1, 0, 1, 0), NO);
        due("21: no long below, below", x.cross(0, 1, 0, 1, 1), NO);
        due("21: no long above, above", x.cross(1, 0, 0, 1, 0), NO);
        due("21: no long above, below", x.cross(1, 0, 0, 1, 1), NO);
        due("21: equal ones are cancelled", x.cross(1, 1, 0, 1, 0), 1);
        x = marked(table(2, 3, 5, 19, 7, 19, 6, 14), 1, 1, 2, 0, 0, 1);
        due("21: of counts", x.cross(0, 1, 0, 1, 1), 19 * 19);
        due("21: of counts", x.cross(0, 1, 0, 1, 0), 30);
    }

    private static void promise22() {
        due("22: four things", new RakeTables().orders(), 24);
        due("22: some alike", table(2, 2, 2, 1, 0, 3).orders(), 60);
        due("22: nothing", table(1, 2, 0, 0).orders(), 1);
        due("22: all alike", table(1, 1, 20).orders(), 1);
        due("22: forty", table(1, 2, 20, 20).orders(), 137846528820L);
        due("22: sixty", table(1, 3, 20, 20, 20).orders(), NO);
        due("22: the table doesn't matter", roundedTwice().orders(), 24);
        due("22: all", table(3, 3, 20, 20, 20, 20, 20, 20, 20, 20, 20).orders(), NO);
        due("22: one more would be no long", table(1, 3, 20, 20, 7).orders(), 8669374829436501180L);
        due("22: one more", table(1, 3, 20, 20, 8).orders(), NO);
    }

    private static RakeTables roundedTwice() {
        RakeTables x = new RakeTables();
        x.rounds(2);
        return x;
    }

    private static void promise23() {
        RakeTables x = table(2, 3, 3, 5, 3, 0, 5, 9);
        int[] ranks = {12, 1, 11, 0, 2, 10};
        for (int k = 0; k < ranks.length; k++) due("23: rank(" + k + ")", x.rank(k), ranks[k]);
        due("23: none behind", x.rank(6), -1);
        due("23: none ahead", x.rank(-1), -1);
        due("23: none", x.rank(MAX), -1);
        due("23: none behind the only one", table(1, 1, 3).rank(1), -1);
        x.fit(0);
        // 30/11 50/11 30/11 | 0 25/7 45/7: the table, not the counts.
        int[] fitted = {12, 1, 11, 0, 2, 10};
        for (int k = 0; k < fitted.length; k++) due("23: fitted rank(" + k + ")", x.rank(k), fitted[k]);
        x.margin(0, 0, 60);
        x.fit(0);
        int[] more = {1, 0, 2, 12, 11, 10};
        for (int k = 0; k < more.length; k++) due("23: more rank(" + k + ")", x.rank(k), more[k]);
    }

    private static void promise24() {
        RakeTables x = new RakeTables();
        due("24: see", x.see(0, 0, 0), 1);
        due("24: see", x.see(1, 1, 60), 2);
        due("24: above 60", x.see(0, 0, 61), -2);
        due("24: below 0", x.see(0, 0, -1), -2);
        due("24: no row", x.see(2, 0, 61), -1);
        due("24: no row", x.see(-2, 0, 0), -1);
        due("24: no column", x.see(0, 2, 0), -1);
        due("24: no column", x.see(0, -1, 0), -1);
        due("24: as many", x.count(0), 2);
        x.see(0, 0, 1);
        x.see(0, 0, 1);
        due("24: five", x.see(0, 0, 1), 5);
        due("24: full", x.see(0, 0, 1), -4);
        due("24: bad ahead of full", x.see(0, 0, 61), -2);
        due("24: none ahead of full", x.see(0, 2, 0), -1);
        due("24: emptied", x.see(-1, 77, -77), 0);
        due("24: none", x.count(0), 0);
        due("24: again", x.see(0, 0, 1), 1);
    }

    private static void promise25() {
        RakeTables x = table(1, 1, 4);
        due("25: nothing seen, all", x.fitting(0, 0, 0), 21);
        due("25: the least of all", x.fitting(0, 0, 1), 0);
        x.see(0, 0, 10);
        due("25: all but 0", x.fitting(0, 0, 0), 20);
        due("25: the least", x.fitting(0, 0, 1), 1);
        x.see(0, 0, 10);
        due("25: the same again", x.fitting(0, 0, 0), 20);
        x.see(0, 0, 0);
        due("25: both can't be", x.fitting(0, 0, 0), 0);
        due("25: none", x.fitting(0, 0, 1), -5);
        due("25: no row", x.fitting(1, 0, 0), -1);
        due("25: no column", x.fitting(0, -1, 0), -1);
        due("25: no what", x.fitting(0, 0, 2), -1);
        due("25: no what", x.fitting(0, 0, -1), -1);
        due("25: changes nothing", x.of(0, 0, 0), 4);
        x.rounds(1);
        x.see(-1, 0, 0);
        x.see(0, 0, 10);
        x.margin(1, 0, 7);
        due("25: from the counts on, with one round", x.fitting(0, 0, 0), 0);
        due("25: the table stays", x.cell(0, 0, 0), 10);
        due("25: the rounds stay", x.told(3), 1);
        RakeTables two = margins(margins(table(1, 2, 1, 1), 0, 4), 1, 60, 60);
        two.see(0, 1, 60);
        // COUNT 0 in 0, 0 leaves 60 in 0, 1; all else does likewise.
        due("25: another cell's", two.fitting(0, 0, 0), 21);
        due("25: of its own", two.fitting(0, 1, 1), 1);
        RakeTables still = margins(margins(table(1, 2, 3, 1), 0, 4), 1, 3, 1);
        still.see(0, 0, 3);
        still.see(0, 1, 1);
        due("25: no round, as nothing would be otherwise", still.fitting(0, 0, 1), 1);
        due("25: all but 0", still.fitting(0, 0, 0), 20);
    }

    private static void promise26() {
        RakeTables x = table(1, 1, 4);
        due("26: always, above", x.odds(0, 0, 0), 1);
        due("26: always, below", x.odds(0, 0, 1), 1);
        margins(margins(x, 0, 4), 1, 4);
        due("26: 0 to 4, above", x.odds(0, 0, 0), 1);
        due("26: 0 to 4, below", x.odds(0, 0, 1), 2);
        margins(margins(x, 0, 0), 1, 0);
        due("26: 0 alone, above", x.odds(0, 0, 0), 1);
        due("26: 0 alone, below", x.odds(0, 0, 1), 10);
        margins(margins(x, 0, 7), 1, 60);
        x.margin(1, 0, 2);
        x.three(true);
        x.margin(2, 0, 6);
        due("26: 0 to 6, above", x.odds(0, 0, 0), 7);
        due("26: 0 to 6, below", x.odds(0, 0, 1), 10);
        due("26: no row", x.odds(1, 0, 0), NO);
        due("26: no column", x.odds(0, 1, 0), NO);
        due("26: no cell", x.odds(-1, -1, 0), NO);
        due("26: no part", x.odds(0, 0, 2), NO);
        due("26: no part", x.odds(0, 0, -1), NO);
        due("26: changes nothing", x.of(0, 0, 0), 4);
    }

    private static void promise27() {
        RakeTables x = table(2, 3, 1, 2, 3, 4, 5, 0);
        due("27: above", x.mean(0), 5);
        due("27: below", x.mean(1), 2);
        due("27: no part", x.mean(2), NO);
        due("27: no part", x.mean(-1), NO);
        x.rounds(1);
        due("27: counts, not the table", x.mean(0), 5);
        due("27: of nothing, above", table(2, 2, 0, 0, 0, 0).mean(0), 0);
        due("27: of nothing, below", table(2, 2, 0, 0, 0, 0).mean(1), 1);
    }

    private static void promise28() {
        RakeTables x = table(2, 3);
        due("28: the first cell", x.event(0, 0), 1);
        x.event(-1, 0);
        due("28: a count", x.event(0, 12), 1);
        due("28: a row", x.event(1, 1), 2);
        due("28: a column", x.event(2, 2), 3);
        due("28: all rows", x.event(3, 60), 4);
        due("28: all rows", x.event(3, 0), 5);
        due("28: no cell", x.event(0, 13), -1);
        due("28: no cell", x.event(0, 20), -1);
        due("28: no cell", x.event(0, -1), -1);
        due("28: no cell", x.event(0, MIN), -1);
        due("28: no row", x.event(1, 2), -1);
        due("28: no row", x.event(1, -1), -1);
        due("28: no column", x.event(2, 3), -1);
        due("28: no column", x.event(2, -1), -1);
        due("28: above 60", x.event(3, 61), -2);
        due("28: below 0", x.event(3, -1), -2);
        due("28: nothing that happens", x.event(4, 0), -1);
        due("28: nothing that happens", x.event(-2, 0), -1);
        due("28: as many", x.count(1), 5);
        x.event(1, 0);
        x.event(1, 0);
        due("28: eight", x.event(1, 0), 8);
        due("28: full", x.event(1, 0), -4);
        due("28: none ahead of full", x.event(1, 2), -1);
        due("28: bad ahead of full", x.event(3, 61), -2);
        due("28: emptied", x.event(-1, MAX), 0);
        due("28: none", x.count(1), 0);
    }

    private static void promise29() {
        RakeTables x = new RakeTables();
        due("29: possible as it is", x.after(0), 1);
        due("29: forbids nothing", x.after(1), 0);
        due("29: alike", x.after(2), 0);
        x.event(1, 0);
        due("29: a row more", x.after(2), 1);
        due("29: not possible", x.after(0), 0);
        due("29: all rows", x.after(1), 3);
        x.event(2, 1);
        due("29: a column more", x.after(2), 0);
        due("29: possible", x.after(0), 1);
        x.event(0, 1);
        x.event(0, 0);
        due("29: row 0 has no cells", x.after(1), 1);
        due("29: not possible", x.after(0), 0);
        due("29: no what", x.after(3), NO);
        due("29: no what", x.after(-1), NO);
        due("29: changes nothing", x.told(7), 4);
        due("29: nor margins", x.marginOf(0, 0), 10);
        x.event(3, 5);
        due("29: all rows 5, columns 21 together", x.after(2), -11);
        x.event(1, 1);
        due("29: behind it", x.after(2), -10);
        x.event(-1, 0);
        margins(margins(x, 0, 60, 10), 1, 59, 60);
        x.event(1, 0);
        x.event(2, 0);
        x.event(2, 0);
        x.event(2, 1);
        due("29: 60 at most, both", x.after(2), 70 - 120);
        x.event(1, 1);
        x.event(3, 1);
        due("29: in order", x.after(2), 2 - 120);
    }

    private static void promise29Cells() {
        for (int i = 0; i < 3; i++) {
            for (int j = 0; j < 3; j++) {
                int[] counts = new int[9];
                for (int c = 0; c < 9; c++) counts[c] = c % 3 == (c / 3 + j - i + 3) % 3 ? 2 : 0;
                RakeTables x = table(3, 3, counts);
                due("29: a cell for each row", x.after(0), 1);
                due("29: the cell goes", x.event(0, 10 * i + j), 1);
                due("29: not possible", x.after(0), 0);
                due("29: its row", x.after(1), 1 << i);
            }
        }
        RakeTables x = new RakeTables();
        x.size(3, 3);
        x.event(3, 7);
        due("29: rows alone", x.after(2), 21 - 30);
    }

    private static void promises30and31() {
        RakeTables x = table(2, 2, 1, 2, 3, 4);
        due("31: an empty book", x.looked(), -5);
        due("30: book", x.book(0, 1, 2), 1);
        due("31: none is otherwise", x.looked(), -5);
        due("30: book", x.book(1, 1, 60), 2);
        due("31: the second", x.looked(), 1);
        due("30: book", x.book(0, 0, 0), 3);
        due("31: the first of them", x.looked(), 1);
        due("30: above 60", x.book(0, 0, 61), -2);
        due("30: below 0", x.book(0, 0, -1), -2);
        due("30: no row", x.book(2, 0, 61), -1);
        due("30: no row", x.book(-2, 0, 0), -1);
        due("30: no column", x.book(0, 2, 0), -1);
        due("30: as many", x.count(2), 3);
        for (int n = 4; n <= 8; n++) due("30: book", x.book(0, 0, 1), n);
        due("30: full", x.book(0, 0, 1), -4);
        due("30: bad ahead of full", x.book(0, 0, 61), -2);
        due("30: none ahead of full", x.book(0, 2, 0), -1);
        due("30: emptied", x.book(-1, 9, 99), 0);
        due("30: none", x.count(2), 0);
        due("31: an empty book", x.looked(), -5);
        x.book(0, 0, 2);
        due("31: the first", x.looked(), 0);
        RakeTables fine = nearlyFine();
        due("31: there is none", fine.looked(), -6);
        fine.book(0, 0, 5);
        due("31: there is none", fine.looked(), -6);
    }

    private static RakeTables judged(int... items) {
        RakeTables x = table(2, 2, 1, 2, 3, 4);
        x.tape(0, 2, items.length);
        for (int i = 0; i < items.length; i++) x.item(0, i, items[i]);
        return x;
    }

    private static void promise32() {
        due("32: all so", judged(1, 2, 3, 4).judge(0, 0), -5);
        due("32: from a place on", judged(9, 1, 2, 3, 4, 9).judge(0, 1), -5);
        due("32: the first cell", judged(2, 2, 3, 4).judge(0, 0), 0);
        due("32: the third cell", judged(1, 2, 4, 5).judge(0, 0), 2);
        due("32: numbered by cells", judged(7, 1, 2, 3, 5).judge(0, 1), 3);
        due("32: it ends", judged(1, 2, 3).judge(0, 0), 103);
        due("32: it ends from a place on", judged(1, 2, 1, 2).judge(0, 2), 102);
        due("32: otherwise ahead of its end", judged(1, 3).judge(0, 0), 1);
        due("32: the place is its end", judged(1, 2, 3, 4).judge(0, 4), 100);
        due("32: the place is beyond", judged(1, 2, 3, 4).judge(0, MAX), 100);
        due("32: the place is below 0", judged(1, 2, 3, 4).judge(0, -1), 100);
        due("32: the place is below 0", judged(1, 2, 3, 4).judge(0, MIN), 100);
        due("32: no items", judged().judge(0, 0), 100);
        RakeTables x = judged(1, 2, 3, 4);
        due("32: nothing is there", x.judge(1, 0), 100);
        due("32: nothing is there", x.judge(1, -1), 100);
        due("32: no tape", x.judge(6, 0), -1);
        due("32: no tape", x.judge(-1, 0), -1);
        for (int sort = 0; sort <= 4; sort++) {
            x.tape(2, sort, 4);
            due("32: sort " + sort, x.judge(2, 0), sort == 2 ? 0 : -12);
            due("32: sort " + sort + " ahead of the place", x.judge(2, -1), sort == 2 ? 100 : -12);
        }
        RakeTables fine = nearlyFine();
        due("32: none ahead of fine", fine.judge(6, 0), -1);
        due("32: fine ahead of nothing", fine.judge(0, 0), -6);
        fine.tape(0, 3, 9);
        due("32: fine ahead of cast", fine.judge(0, 0), -6);
    }

    private static void promises33and34() {
        RakeTables x = margins(margins(table(2, 3, 1, 2, 1, 2, 4, 2), 0, 8, 8), 1, 4, 8, 4);
        margins(x, 2, 1, 2, 3);
        x.mark(1, 2, 2);
        x.three(true);
        x.three(false);
        x.rounds(1);
        x.see(0, 0, 1);
        x.event(1, 0);
        x.event(1, 1);
        x.book(0, 0, 9);
        cellIs(x, 0, 1, 4, 1);
        due("34: there is none", x.undo(), -3);
        due("33: image", x.image(), 6);
        due("33: image changes nothing", x.told(3), 1);
        x.feed('x');
        x.tape(0, 2, 3);
        x.three(true);
        x.begin();
        due("34: undo", x.undo(), 6);
        due("34: rounds", x.told(3), 1);
        due("34: three", x.told(2), 0);
        cellIs(x, 0, 1, 4, 1);
        due("34: the text stays", x.count(3), 1);
        due("34: tapes stay", x.peek(0, 2), 0);
        x.size(3, 1);
        x.tell(2, 0, 9);
        x.see(2, 0, 1);
        x.event(1, 2);
        x.book(2, 0, 1);
        due("34: undo again", x.undo(), 6);
        due("34: rows", x.told(0), 2);
        due("34: columns", x.told(1), 3);
        due("34: counts", x.told(7), 12);
        due("34: mark", x.of(1, 2, 1), 2);
        due("34: margin of a row", x.marginOf(0, 1), 8);
        due("34: margin of a column", x.marginOf(1, 2), 4);
        due("34: margin of a mark", x.marginOf(2, 0), 1);
        due("34: rounds", x.told(3), 1);
        due("34: seen", x.count(0), 1);
        due("34: events", x.count(1), 2);
        due("34: what happens", x.after(2), 18 - 16);
        due("34: book", x.count(2), 1);
        due("34: looked", x.looked(), 0);
        x.size(1, 1);
        due("33: another image", x.image(), 1);
        x.size(3, 3);
        due("34: the last image", x.undo(), 1);
        due("34: its rows", x.told(0), 1);
    }

    private static void promise34ByHand() {
        RakeTables x = table(2, 1, 3, 4);
        margins(margins(x, 0, 6, 8), 1, 14);
        x.see(0, 0, 6);
        x.see(1, 0, 8);
        x.book(0, 0, 3);
        x.book(1, 0, 4);
        x.event(2, 0);
        x.event(0, 10);
        x.image();
        x.see(-1, 0, 0);
        x.see(1, 0, 0);
        x.see(0, 0, 0);
        x.see(0, 0, 1);
        x.book(-1, 0, 0);
        x.book(1, 0, 9);
        x.book(0, 0, 9);
        x.book(0, 0, 9);
        x.event(-1, 0);
        x.event(1, 0);
        x.event(1, 1);
        x.event(1, 1);
        due("34: otherwise now", x.looked(), 0);
        due("34: otherwise now", x.fitting(0, 0, 0), 0);
        due("34: undo", x.undo(), 2);
        due("34: the book, cells and numbers", x.looked(), -5);
        due("34: seen, cells and numbers", x.fitting(0, 0, 0), 20);
        due("34: events", x.after(2), -1);
        due("34: events, the cell", x.after(1), 2);
    }

    private static void promise35() {
        RakeTables x = new RakeTables();
        x.see(0, 0, 1);
        x.event(1, 0);
        x.event(1, 0);
        for (int n = 0; n < 3; n++) x.book(0, 0, 1);
        for (int n = 0; n < 4; n++) x.feed('x');
        for (int what = 0; what < 4; what++) due("35: count(" + what + ")", x.count(what), what + 1);
        due("35: no what", x.count(4), -2);
        due("35: no what", x.count(-1), -2);
        due("35: no what", x.count(MAX), -2);
    }

    private static void promise36() {
        RakeTables x = new RakeTables();
        due("36: tape", x.tape(5, 3, 60), 1);
        due("36: all 0", x.peek(5, 59), 0);
        due("36: no more", x.peek(5, 60), NO);
        x.item(5, 0, 7);
        due("36: tape anew", x.tape(5, 3, 1), 1);
        due("36: all 0", x.peek(5, 0), 0);
        due("36: shorter", x.peek(5, 1), NO);
        due("36: of none", x.tape(0, 0, 0), 1);
        due("36: a row of none is something", x.item(0, 0, 1), -13);
        due("36: no tape", x.tape(6, 9, 61), -1);
        due("36: no tape", x.tape(-1, 0, 1), -1);
        due("36: no sort", x.tape(0, 5, 1), -2);
        due("36: no sort", x.tape(0, -2, 1), -2);
        due("36: too many", x.tape(0, 4, 61), -2);
        due("36: no sort ahead of size", x.tape(0, 5, -1), -2);
        due("36: size", x.tape(0, 4, -1), -14);
        due("36: size", x.tape(0, 4, MIN), -14);
        due("36: holds nothing", x.tape(5, -1, 61), 1);
        due("36: holds nothing", x.item(5, 0, 1), -11);
        due("36: not even a first item", x.peek(5, 0), NO);
        due("36: n does not matter", x.tape(5, -1, -1), 1);
    }

    private static void promises37and38() {
        RakeTables x = new RakeTables();
        long[] puts = {0, 1, -1, 127, 128, 255, 256, 32768, 65536, 2147483648L, 4294967296L, Long.MIN_VALUE, Long.MAX_VALUE};
        for (int sort = 0; sort <= 4; sort++) {
            x.tape(sort, sort, 2);
            for (long v : puts) {
                due("37: item", x.item(sort, 1, v), 1);
                long[] kept = {(byte) v, (short) v, (int) v, v, v == 0 ? 0 : 1};
                due("38: sort " + sort + " of " + v, x.peek(sort, 1), kept[sort]);
            }
            due("38: the other item", x.peek(sort, 0), 0);
        }
        due("37: no tape", x.item(6, 0, 1), -1);
        due("37: no tape", x.item(-1, 0, 1), -1);
        due("37: nothing", x.item(5, -1, 1), -11);
        due("37: no place", x.item(0, 2, 1), -13);
        due("37: no place", x.item(0, -1, 1), -13);
        due("38: no tape", x.peek(6, 0), NO);
        due("38: no tape", x.peek(-1, 0), NO);
        due("38: nothing", x.peek(5, 0), NO);
        due("38: no place", x.peek(0, 2), NO);
        due("38: no place", x.peek(0, -1), NO);
        due("38: no place", x.peek(0, MAX), NO);
    }

    private static void tapeIs(RakeTables x, int tape, int... items) {
        for (int i = 0; i < items.length; i++) due("39: peek(" + tape + ", " + i + ")", x.peek(tape, i), items[i]);
    }

    private static void promise39() {
        RakeTables x = judged(1, 2, 3, 4, 5);
        x.tape(1, 2, 3);
        due("39: to another", x.shift(0, 1, 1, 0, 2), 2);
        tapeIs(x, 1, 2, 3, 0);
        tapeIs(x, 0, 1, 2, 3, 4, 5);
        due("39: upwards on itself", x.shift(0, 0, 0, 1, 4), 4);
        tapeIs(x, 0, 1, 1, 2, 3, 4);
        due("39: downwards on itself", x.shift(0, 2, 0, 1, 3), 3);
        tapeIs(x, 0, 1, 2, 3, 4, 4);
        due("39: none", x.shift(0, 5, 1, 3, 0), 0);
        due("39: all", x.shift(1, 0, 0, 2, 3), 3);
        tapeIs(x, 0, 1, 2, 2, 3, 0);
        due("39: no tape", x.shift(6, 0, 0, 0, 1), -1);
        due("39: no other", x.shift(0, 0, -1, 0, 1), -1);
        due("39: none ahead of nothing", x.shift(2, 0, 6, 0, 1), -1);
        due("39: nothing", x.shift(2, 0, 0, 0, 1), -11);
        due("39: nothing there", x.shift(0, 0, 2, 0, 1), -11);
        x.tape(3, 3, 4);
        due("39: unlike sorts", x.shift(0, 0, 3, 0, 1), -12);
        due("39: unlike sorts ahead of the place", x.shift(0, -1, 3, 0, 1), -12);
        int[][] places = {{-1, 0, 1}, {0, -1, 1}, {0, 0, -1}, {5, 0, 1}, {6, 0, 0}, {0, 4, 0}, {3, 0, 3}, {0, 1, 3},
            {MAX, 0, 1}, {0, MAX, 1}, {0, 0, MAX}, {1, 0, MAX}, {MAX, 0, MAX}};
        for (int[] p : places) due("39: no place", x.shift(0, p[0], 1, p[1], p[2]), -13);
        tapeIs(x, 1, 2, 3, 0);
        tapeIs(x, 0, 1, 2, 2, 3, 0);
    }

    private static void constants() {
        due("NONE", RakeTables.NONE, -1);
        due("BAD", RakeTables.BAD, -2);
        due("STATE", RakeTables.STATE, -3);
        due("FULL", RakeTables.FULL, -4);
        due("FINE", RakeTables.FINE, -6);
        due("NO", RakeTables.NO, Long.MIN_VALUE);
    }
}
