/** The boundary cases of the terms, part 3, and of the answers: tapes, which refusal comes first, what changes nothing. */
public final class BoundaryRefusalTests extends Boundary {
    public static void main(String[] args) {
        termsOfTapes();
        answers();
        end();
    }

    // ---- terms 3: tapes

    private static void termsOfTapes() {
        sixTapes();
        hostsRefusals();
        bytesWrapAround();
        shortsWrapAround();
        intsWrapAround();
        longsDont();
        booleansAre0Or1();
        judgedByTheFirst();
        judgedAtTheEnd();
        judgedBelow0();
        judgedByNothing();
    }

    private static void sixTapes() {
        terms("TAPES 0 .. 5 hold nothing (at first),");
        RakeTables x = new RakeTables();
        for (int tape = 0; tape < 6; tape++) {
            due("item", x.item(tape, 0, 1), NOTHING);
            due("peek", x.peek(tape, 0), NO);
            due("judge", x.judge(tape, 0), 100);
            due("shift from", x.shift(tape, 0, tape, 0, 0), NOTHING);
        }
        for (int tape : new int[] {MIN, -1, 6, MAX}) {
            due("tape", x.tape(tape, 0, 1), NONE);
            due("item", x.item(tape, 0, 1), NONE);
            due("peek", x.peek(tape, 0), NO);
            due("judge", x.judge(tape, 0), NONE);
            due("shift from", x.shift(tape, 0, 0, 0, 0), NONE);
            due("shift to", x.shift(0, 0, tape, 0, 0), NONE);
        }
    }

    private static void kept(int sort, long[] puts, long[] items) {
        RakeTables x = new RakeTables();
        x.tape(0, sort, 3);
        for (int n = 0; n < puts.length; n++) {
            due("item of " + puts[n], x.item(0, 1, puts[n]), 1);
            due("peek of " + puts[n], x.peek(0, 1), items[n]);
            due("the one ahead of it", x.peek(0, 0), 0);
            due("the one behind it", x.peek(0, 2), 0);
        }
    }

    private static void hostsRefusals() {
        terms("The host's refusals: NOTHING (-11): nothing is there; CAST (-12): another sort; PLACE (-13): no such place; "
                + "SIZE (-14): a size below 0.");
        RakeTables x = new RakeTables();
        due("nothing is there", x.item(0, 0, 1), -11);
        due("a size below 0", x.tape(0, 0, -1), -14);
        due("nothing is there, still", x.item(0, 0, 1), -11);
        x.tape(0, 0, 1);
        x.tape(1, 1, 1);
        due("another sort", x.shift(0, 0, 1, 0, 1), -12);
        due("another sort than ints", x.judge(1, 0), -12);
        due("no such place", x.item(0, 1, 1), -13);
        due("no such place", x.shift(0, 1, 0, 0, 1), -13);
        x.tape(0, -1, 0);
        due("nothing is there any more", x.shift(0, 0, 1, 0, 1), -11);
    }

    private static void bytesWrapAround() {
        terms("or a row of 0 bytes,");
        kept(0, new long[] {127, 128, 255, 256, -128, -129, -1, -256, 383, 384, Long.MAX_VALUE, NO, 1L << 32},
                new long[] {127, -128, -1, 0, -128, 127, -1, 0, 127, -128, -1, 0, 0});
    }

    private static void shortsWrapAround() {
        terms("1 shorts,");
        kept(1, new long[] {128, 32767, 32768, 65535, 65536, -32768, -32769, -65536, 98303, Long.MAX_VALUE, NO},
                new long[] {128, 32767, -32768, -1, 0, -32768, 32767, 0, 32767, -1, 0});
    }

    private static void intsWrapAround() {
        terms("2 ints,");
        kept(2, new long[] {32768, MAX, MAX + 1L, 4294967295L, 4294967296L, MIN, MIN - 1L, 6442450943L, Long.MAX_VALUE, NO},
                new long[] {32768, MAX, MIN, -1, 0, MIN, MAX, MAX, -1, 0});
    }

    private static void longsDont() {
        terms("3 longs,");
        long[] all = {MAX + 1L, MIN - 1L, 1L << 32, Long.MAX_VALUE, Long.MIN_VALUE + 1, Long.MIN_VALUE, -1, 0};
        kept(3, all, all);
    }

    private static void booleansAre0Or1() {
        terms("4 booleans (items 0, 1).");
        kept(4, new long[] {0, 1, 2, -1, 256, 1L << 32, NO, 0}, new long[] {0, 1, 1, 1, 1, 1, 1, 0});
    }

    /** Cells 1 2 3 | 4 5 6, and a row of ints. */
    private static RakeTables judged(int... items) {
        RakeTables x = table(2, 3, 1, 2, 3, 4, 5, 6);
        x.tape(0, 2, items.length);
        for (int i = 0; i < items.length; i++) x.item(0, i, items[i]);
        return x;
    }

    private static void judgedByTheFirst() {
        terms("are JUDGED by ROUNDED: the first CELL (its number, from 0) that is otherwise; -5: none;");
        due("all so", judged(1, 2, 3, 4, 5, 6).judge(0, 0), NOT_ANY);
        due("more behind", judged(1, 2, 3, 4, 5, 6, 7).judge(0, 0), NOT_ANY);
        due("from the last place that is enough", judged(0, 1, 2, 3, 4, 5, 6).judge(0, 1), NOT_ANY);
        for (int cell = 0; cell < 6; cell++) {
            int[] items = {9, 1, 2, 3, 4, 5, 6};
            items[cell + 1] = 0;
            due("cell " + cell, judged(items).judge(0, 1), cell);
            items[6] = 0;
            due("cell " + cell + " and the last", judged(items).judge(0, 1), cell);
        }
        due("a great one", judged(1, 2, 3, 4, 5, MAX).judge(0, 0), 5);
        RakeTables x = table(1, 1, 0);
        x.tape(5, 2, 60);
        due("the last place of sixty", x.judge(5, 59), NOT_ANY);
        due("behind it", x.judge(5, 60), 100);
    }

    private static void judgedAtTheEnd() {
        terms("100 and how many were looked at, if the row ends ahead of that");
        for (int many = 0; many < 6; many++) {
            int[] items = new int[many];
            for (int i = 0; i < many; i++) items[i] = i + 1;
            due(many + " items", judged(items).judge(0, 0), 100 + many);
        }
        due("otherwise in the last one there is", judged(1, 2, 9).judge(0, 0), 2);
        due("from a place on", judged(0, 0, 1, 2).judge(0, 2), 102);
        due("the place is the end", judged(1, 2).judge(0, 2), 100);
        due("behind the end", judged(1, 2).judge(0, 3), 100);
        due("far behind", judged(1, 2).judge(0, MAX), 100);
        due("a place so far that it wraps around", judged(1, 2).judge(0, MAX - 1), 100);
    }

    private static void judgedBelow0() {
        terms("(or the place is below 0,");
        for (int place : new int[] {-1, -2, -6, -60, MIN, MIN + 1}) {
            due("place " + place, judged(1, 2, 3, 4, 5, 6).judge(0, place), 100);
        }
    }

    private static void judgedByNothing() {
        terms("or the TAPE holds nothing).");
        RakeTables x = judged(1, 2, 3, 4, 5, 6);
        due("nothing at first", x.judge(3, 0), 100);
        due("nothing, a place below 0", x.judge(3, -1), 100);
        x.tape(0, -1, 0);
        due("nothing any more", x.judge(0, 0), 100);
    }

    // ---- the answers: which refusal comes first, and that it changes nothing

    private static void answers() {
        firstThatIsNamed();
        refusedChangesNothing();
        refusedByTapes();
        refusedAsFull();
        refusedAsFine();
        askedChangesNothing();
        allAskedChangesNothing();
    }

    private static void allAskedChangesNothing() {
        terms("All that follows is asked, and changes nothing.");
        alike("all is as ahead of it", behind(Boundary::pictured, x -> {
            ask(x, new StringBuilder());
            return 0;
        }), Boundary::pictured);
    }

    private static void firstThatIsNamed() {
        answering("the first that a call's words name.");
        RakeTables x = full();
        due("tell: none, bad", x.tell(2, 0, 21), NONE);
        due("mark: none, bad", x.mark(0, 3, 3), NONE);
        due("margin: none, bad", x.margin(0, 2, 61), NONE);
        due("feed: bad, full", x.feed(128), BAD);
        due("see: none, bad, full", x.see(2, 0, 61), NONE);
        due("see: none, full", x.see(2, 0, 0), NONE);
        due("see: bad, full", x.see(0, 0, 61), BAD);
        due("book: none, bad, full", x.book(2, 0, 61), NONE);
        due("book: none, full", x.book(0, 3, 0), NONE);
        due("book: bad, full", x.book(0, 0, -1), BAD);
        due("event: none, full", x.event(0, 20), NONE);
        due("event: bad, full", x.event(3, 61), BAD);
        due("event: none, n bad, full", x.event(4, 61), NONE);
        due("tape: none, bad", x.tape(6, 5, 61), NONE);
        due("tape: none, size", x.tape(-1, 0, -1), NONE);
        due("tape: bad, size", x.tape(0, 5, -1), BAD);
        due("item: none, place", x.item(6, 99, 1), NONE);
        due("item: nothing, place", x.item(5, -1, 1), NOTHING);
        due("shift: none, nothing", x.shift(5, 0, 6, 0, 0), NONE);
        due("shift: none, place", x.shift(-1, -1, 0, -1, -1), NONE);
        due("shift: nothing, place", x.shift(0, -1, 5, 0, 99), NOTHING);
        due("shift: cast, place", x.shift(0, -1, 1, 0, 99), CAST);
        RakeTables fine = rowsTogetherFine();
        fine.tape(1, 1, 1);
        due("fit: none, state", fine.fit(3), NONE);
        due("fit: state, fine", fine.fit(2), STATE);
        due("rounded: none, fine", fine.rounded(0, 3), NONE);
        due("together: none, fine", fine.together(3, 0), NONE);
        due("judge: none, fine", fine.judge(6, 0), NONE);
        due("judge: fine, cast", fine.judge(1, 0), FINE);
        due("judge: fine, nothing there", fine.judge(0, 0), FINE);
    }

    private static void refusedChangesNothing() {
        answering("What is answered so changes nothing;");
        changesNothing("size rows", Boundary::full, x -> x.size(0, 3), BAD);
        changesNothing("size columns", Boundary::full, x -> x.size(3, 4), BAD);
        changesNothing("tell none", Boundary::full, x -> x.tell(2, 2, 5), NONE);
        changesNothing("tell bad", Boundary::full, x -> x.tell(0, 0, 21), BAD);
        changesNothing("mark none", Boundary::full, x -> x.mark(-1, 0, 1), NONE);
        changesNothing("mark bad", Boundary::full, x -> x.mark(0, 0, 3), BAD);
        changesNothing("margin none", Boundary::full, x -> x.margin(0, 2, 5), NONE);
        changesNothing("margin bad", Boundary::full, x -> x.margin(0, 1, 61), BAD);
        changesNothing("fit none", Boundary::full, x -> x.fit(3), NONE);
        changesNothing("rounds bad", Boundary::full, x -> x.rounds(21), BAD);
        changesNothing("rounds bad", Boundary::full, x -> x.rounds(-1), BAD);
        changesNothing("see none", Boundary::pictured, x -> x.see(-2, 0, 1), NONE);
        changesNothing("see bad", Boundary::pictured, x -> x.see(0, 0, 61), BAD);
        changesNothing("event none", Boundary::pictured, x -> x.event(1, 2), NONE);
        changesNothing("event bad", Boundary::pictured, x -> x.event(3, 61), BAD);
        changesNothing("book none", Boundary::pictured, x -> x.book(0, 3, 1), NONE);
        changesNothing("book bad", Boundary::pictured, x -> x.book(0, 0, -1), BAD);
        changesNothing("feed bad", Boundary::pictured, x -> x.feed(128), BAD);
        changesNothing("count bad", Boundary::full, x -> x.count(4), BAD);
        changesNothing("fit state", behind(Boundary::full, x -> x.three(false)), x -> x.fit(2), STATE);
        changesNothing("undo state", RakeTables::new, RakeTables::undo, STATE);
    }

    private static void refusedByTapes() {
        answering("What is answered so changes nothing;");
        changesNothing("tape none", Boundary::full, x -> x.tape(6, 0, 1), NONE);
        changesNothing("tape bad sort", Boundary::full, x -> x.tape(2, 5, 1), BAD);
        changesNothing("tape bad n", Boundary::full, x -> x.tape(2, 3, 61), BAD);
        changesNothing("tape size", Boundary::full, x -> x.tape(2, 3, -1), SIZE);
        changesNothing("item none", Boundary::full, x -> x.item(-1, 0, 9), NONE);
        changesNothing("item nothing", Boundary::full, x -> x.item(5, 0, 9), NOTHING);
        changesNothing("item place", Boundary::full, x -> x.item(2, 3, 9), PLACE);
        changesNothing("item place below 0", Boundary::full, x -> x.item(2, -1, 9), PLACE);
        changesNothing("shift none", Boundary::full, x -> x.shift(2, 0, 6, 1, 1), NONE);
        changesNothing("shift nothing", Boundary::full, x -> x.shift(2, 0, 5, 0, 1), NOTHING);
        changesNothing("shift cast", Boundary::full, x -> x.shift(2, 0, 3, 1, 1), CAST);
        changesNothing("shift place", Boundary::full, x -> x.shift(2, 0, 2, 1, 3), PLACE);
        changesNothing("shift place", Boundary::full, x -> x.shift(2, 1, 2, 0, 3), PLACE);
    }

    private static void refusedAsFull() {
        answering("FULL (-4);");
        changesNothing("feed full", Boundary::full, x -> x.feed('x'), FULL);
        changesNothing("see full", Boundary::full, x -> x.see(1, 2, 60), FULL);
        changesNothing("event full", Boundary::full, x -> x.event(3, 60), FULL);
        changesNothing("book full", Boundary::full, x -> x.book(1, 2, 60), FULL);
    }

    private static void refusedAsFine() {
        answering("FINE (-6) as told;");
        changesNothing("fit by rows", Boundary::rowsFine, x -> x.fit(0), FINE);
        changesNothing("fit by columns", Boundary::columnsFine, x -> x.fit(1), FINE);
        changesNothing("a cell of a fit", Boundary::rowsTogetherFine, x -> x.fit(0), FINE);
        changesNothing("farthest", Boundary::rowsFine, RakeTables::farthest, FINE);
        changesNothing("told", Boundary::columnsFine, x -> x.told(4), FINE);
        changesNothing("rounded", Boundary::rowsTogetherFine, x -> x.rounded(0, 0), FINE);
        changesNothing("together", Boundary::rowsTogetherFine, x -> x.together(2, 1), FINE);
        changesNothing("looked", Boundary::rowsTogetherFine, RakeTables::looked, FINE);
        changesNothing("judge", Boundary::rowsTogetherFine, x -> x.judge(0, 0), FINE);
        changesNothing("rounds", Boundary::columnsFine, x -> x.rounds(20), 0);
    }

    private static void askedChangesNothing() {
        answering("what is asked changes nothing.");
        RakeTables x = full();
        changesNothing("of", Boundary::full, y -> y.of(1, 1, 0), x.of(1, 1, 0));
        changesNothing("marginOf", Boundary::full, y -> y.marginOf(0, 1), x.marginOf(0, 1));
        changesNothing("cell", Boundary::full, y -> y.cell(0, 1, 1), x.cell(0, 1, 1));
        changesNothing("sum", Boundary::full, y -> y.sum(1, 1, 0), x.sum(1, 1, 0));
        changesNothing("gap", Boundary::full, y -> y.gap(1, 1, 0), x.gap(1, 1, 0));
        changesNothing("farthest", Boundary::full, RakeTables::farthest, x.farthest());
        for (int what = 0; what < 8; what++) {
            final int w = what;
            changesNothing("told " + what, Boundary::full, y -> y.told(w), x.told(w));
        }
        changesNothing("rounded", Boundary::full, y -> y.rounded(1, 1), x.rounded(1, 1));
        changesNothing("together", Boundary::full, y -> y.together(0, 1), x.together(0, 1));
        changesNothing("cross", Boundary::full, y -> y.cross(0, 1, 0, 1, 0), x.cross(0, 1, 0, 1, 0));
        changesNothing("orders", Boundary::full, RakeTables::orders, x.orders());
        changesNothing("rank", Boundary::full, y -> y.rank(5), x.rank(5));
        changesNothing("fitting", Boundary::full, y -> y.fitting(1, 2, 1), x.fitting(1, 2, 1));
        changesNothing("odds", Boundary::full, y -> y.odds(1, 2, 1), x.odds(1, 2, 1));
        changesNothing("mean", Boundary::full, y -> y.mean(1), x.mean(1));
        for (int what = 0; what < 3; what++) {
            final int w = what;
            changesNothing("after " + what, Boundary::full, y -> y.after(w), x.after(w));
        }
        changesNothing("looked", Boundary::full, RakeTables::looked, x.looked());
        changesNothing("judge", Boundary::full, y -> y.judge(2, 1), x.judge(2, 1));
        changesNothing("count", Boundary::full, y -> y.count(3), 100);
        changesNothing("peek", Boundary::full, y -> y.peek(2, 1), 4);
    }
}
