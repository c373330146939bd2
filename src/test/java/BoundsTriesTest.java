/** Boundary cases of Terms 6 and of promises 30 to 33: a test for each sentence. */
public final class BoundsTriesTest {
    private static final Check check = new Check("BoundsTriesTest");
    private static final int LEAST = Integer.MIN_VALUE;
    private static final int MOST = Integer.MAX_VALUE;

    public static void main(String[] args) {
        tryPace();
        tryBright();
        tryOne();
        mostTries();
        wrongStart();
        wrongSlope();
        wrongFromOn();
        wrongTimesBright();
        wrongOfNone();
        lineWhat();
        lineNot();
        lineStartEnds();
        lineSlopeEnds();
        lineFewest();
        lineLikeOnes();
        blades();
        check.end();
    }

    private static DrumSlits tried(int[]... tries) {
        DrumSlits x = new DrumSlits();
        for (int[] t : tries) {
            x.tries(t[0], t[1], t[2]);
        }
        return x;
    }

    private static int[] one(int pace, int bright) {
        return new int[] {pace, bright, 1};
    }

    private static int[] row(int pace, int bright) {
        return new int[] {pace, bright, 0};
    }

    private static void line(String name, DrumSlits x, int a, int b, int wrong) {
        check.same(name + ": a", x.line(0), a);
        check.same(name + ": b", x.line(1), b);
        check.same(name + ": WRONG", x.line(2), wrong);
    }

    // ---- promise 30

    /** "at a PACE (1 to 60 LOOKS a second)". */
    private static void tryPace() {
        DrumSlits x = new DrumSlits();
        check.same("PACE -1", x.tries(-1, 0, 0), -2);
        check.same("PACE 0", x.tries(0, 0, 0), -2);
        check.same("PACE 1", x.tries(1, 0, 0), 1);
        check.same("PACE 60", x.tries(60, 0, 0), 2);
        check.same("PACE 61", x.tries(61, 0, 0), -2);
        check.same("PACE, the least", x.tries(LEAST, 0, 0), -2);
        check.same("PACE, the most", x.tries(MOST, 0, 0), -2);
        check.same("two TRIES", x.count(6), 2);
    }

    /** "so BRIGHT (0 to 9)". */
    private static void tryBright() {
        DrumSlits x = new DrumSlits();
        check.same("BRIGHT -1", x.tries(1, -1, 0), -2);
        check.same("BRIGHT 0", x.tries(1, 0, 0), 1);
        check.same("BRIGHT 9", x.tries(1, 9, 0), 2);
        check.same("BRIGHT 10", x.tries(1, 10, 0), -2);
        check.same("BRIGHT, the least", x.tries(1, LEAST, 0), -2);
        check.same("BRIGHT, the most", x.tries(1, MOST, 0), -2);
        check.same("two TRIES", x.count(6), 2);
    }

    /** "it was ONE man (1) or a row of men (0)". */
    private static void tryOne() {
        DrumSlits x = new DrumSlits();
        check.same("ONE -1", x.tries(30, 0, -1), -2);
        check.same("ONE 0", x.tries(30, 0, 0), 1);
        check.same("a row of men at 30", x.wrong(30, 0), 1);
        check.same("ONE 1", x.tries(40, 0, 1), 2);
        check.same("ONE at 40, too", x.wrong(40, 0), 0);
        check.same("ONE 2", x.tries(30, 0, 2), -2);
        check.same("ONE, the least", x.tries(30, 0, LEAST), -2);
        check.same("ONE, the most", x.tries(30, 0, MOST), -2);
        check.same("two TRIES", x.count(6), 2);
    }

    /** "TRIES, 40 at most"; "how many. BAD; FULL." */
    private static void mostTries() {
        DrumSlits x = new DrumSlits();
        check.same("the first", x.tries(30, 0, 1), 1);
        for (int i = 2; i <= 39; i++) {
            x.tries(30, 0, 1);
        }
        check.same("the 40th", x.tries(30, 9, 0), 40);
        check.same("the 41st", x.tries(30, 0, 0), -4);
        check.same("the 41st of PACE 0", x.tries(0, 0, 0), -2);
        check.same("the 41st of BRIGHT 10", x.tries(30, 10, 0), -2);
        check.same("the 41st of ONE 2", x.tries(30, 0, 2), -2);
        check.same("40 TRIES", x.count(6), 40);
        check.same("the 40th is one of them", x.wrong(0, 0), 1);
        check.same("all are", x.wrong(60, 0), 39);
    }

    // ---- promise 31

    /** "A LINE (a 0 to 60 ..)"; "WRONG. BAD." */
    private static void wrongStart() {
        DrumSlits x = tried(one(60, 0), row(59, 0));
        check.same("a -1", x.wrong(-1, 0), -2);
        check.same("a 0", x.wrong(0, 0), 1);
        check.same("a 59", x.wrong(59, 0), 1);
        check.same("a 60", x.wrong(60, 0), 0);
        check.same("a 61", x.wrong(61, 0), -2);
        check.same("a, the least", x.wrong(LEAST, 0), -2);
        check.same("a, the most", x.wrong(MOST, 0), -2);
    }

    /** "(.. b 0 to 9)". */
    private static void wrongSlope() {
        DrumSlits x = tried(one(9, 1), row(8, 1));
        check.same("b -1", x.wrong(0, -1), -2);
        check.same("b 0", x.wrong(0, 0), 1);
        check.same("b 8", x.wrong(0, 8), 1);
        check.same("b 9", x.wrong(0, 9), 0);
        check.same("b 10", x.wrong(0, 10), -2);
        check.same("b, the least", x.wrong(0, LEAST), -2);
        check.same("b, the most", x.wrong(0, MOST), -2);
    }

    /** "ONE from a PACE of a and b times BRIGHT on": at just that PACE, too. */
    private static void wrongFromOn() {
        check.same("one less was a row", tried(row(29, 5)).wrong(20, 2), 0);
        check.same("one less was ONE", tried(one(29, 5)).wrong(20, 2), 1);
        check.same("just that was a row", tried(row(30, 5)).wrong(20, 2), 1);
        check.same("just that was ONE", tried(one(30, 5)).wrong(20, 2), 0);
        check.same("one more was ONE", tried(one(31, 5)).wrong(20, 2), 0);
    }

    /** "b times BRIGHT": of BRIGHT 0 nothing, of BRIGHT 9 above any PACE. */
    private static void wrongTimesBright() {
        check.same("BRIGHT 0", tried(one(20, 0)).wrong(20, 9), 0);
        check.same("BRIGHT 1", tried(one(20, 1)).wrong(20, 1), 1);
        check.same("BRIGHT 9 by 6", tried(one(60, 9)).wrong(6, 6), 0);
        check.same("BRIGHT 9 by 6, one more", tried(one(60, 9)).wrong(7, 6), 1);
        check.same("BRIGHT 9 by 9", tried(row(60, 9)).wrong(60, 9), 0);
    }

    /** "WRONG: how many TRIES it tells otherwise": of none 0. */
    private static void wrongOfNone() {
        DrumSlits x = new DrumSlits();
        check.same("none", x.wrong(0, 0), 0);
        check.same("none, BAD", x.wrong(61, 0), -2);
        x.tries(1, 0, 0);
        check.same("one, told otherwise", x.wrong(0, 0), 1);
        check.same("one, at PACE 1", x.wrong(1, 0), 1);
        check.same("one, told so", x.wrong(2, 0), 0);
    }

    // ---- promise 32

    /** "BEST LINE: a (what = 0), b (1), how many are WRONG (2). BAD". */
    private static void lineWhat() {
        DrumSlits x = tried(one(30, 1), row(29, 1), one(21, 0), row(20, 0), row(60, 0));
        check.same("line(-1)", x.line(-1), -2);
        check.same("line(0)", x.line(0), 21);
        check.same("line(1)", x.line(1), 9);
        check.same("line(2)", x.line(2), 1);
        check.same("line(3)", x.line(3), -2);
        check.same("line of the least", x.line(LEAST), -2);
        check.same("line of the most", x.line(MOST), -2);
    }

    /** "NOT: no TRIES." */
    private static void lineNot() {
        DrumSlits x = new DrumSlits();
        for (int what = 0; what <= 2; what++) {
            check.same("none: line(" + what + ")", x.line(what), -3);
        }
        check.same("none, BAD ahead", x.line(3), -2);
        x.tries(0, 0, 0);
        check.same("a refused one is none", x.line(0), -3);
        x.tries(1, 0, 1);
        line("one", x, 0, 0, 0);
    }

    /** "a 0 to 60", for BEST LINE. */
    private static void lineStartEnds() {
        line("a 0", tried(one(1, 0)), 0, 0, 0);
        line("a 2", tried(row(1, 0)), 2, 0, 0);
        line("a 60", tried(row(59, 0), one(60, 0)), 60, 0, 0);
        line("a 61 would be", tried(row(60, 0)), 0, 0, 1);
    }

    /** "b 0 to 9", for BEST LINE. */
    private static void lineSlopeEnds() {
        line("b 9 of a 0", tried(one(1, 0), row(8, 1), one(9, 1)), 0, 9, 0);
        line("b 10 of a 0 would be", tried(one(1, 0), row(9, 1), one(10, 1)), 1, 9, 0);
        line("b 10 of a 1 would be", tried(one(1, 0), row(10, 1), one(11, 1)), 0, 0, 1);
        line("b 0", tried(row(19, 0), one(20, 9)), 20, 0, 0);
    }

    /** "BEST LINE: with the fewest". */
    private static void lineFewest() {
        line("none is WRONG", tried(row(10, 0), one(11, 0)), 11, 0, 0);
        line("one is WRONG", tried(one(10, 0), row(11, 0)), 0, 0, 1);
        int[][] rows = new int[40][];
        java.util.Arrays.fill(rows, row(60, 0));
        line("all forty are WRONG", tried(rows), 0, 0, 40);
        rows[39] = row(59, 0);
        line("all but one are WRONG", tried(rows), 60, 0, 39);
        line("one of three is WRONG", tried(one(10, 0), row(11, 0), row(11, 0)), 12, 0, 1);
        line("one of three, the others", tried(one(10, 0), one(10, 0), row(11, 0)), 0, 0, 1);
    }

    /** "of like ones the least a, then b". */
    private static void lineLikeOnes() {
        line("a 0 with b 7, ahead of a 1 with b 0", tried(row(60, 9)), 0, 7, 0);
        line("b 6 and a 7 would do, too", tried(row(60, 9), row(1, 0)), 2, 7, 0);
        line("of a 0 the least b", tried(row(10, 5)), 0, 3, 0);
        line("BRIGHT 0: of a 11 the least b", tried(row(10, 0)), 11, 0, 0);
    }

    // ---- promise 33

    private static void blades() {
        bentSheet();
        bentWhat();
        bentLost();
        bentNoItems();
        bentStarts();
        bentPaces();
        bentRound();
        bentItemsRound();
        bentAmounts();
        bentLeastPace();
        bentLeastStart();
        bentSixtyRows();
    }

    private static DrumSlits seen(int form, int... items) {
        DrumSlits x = new DrumSlits();
        Check.row(x, 0, form, items);
        return x;
    }

    private static void blade(String name, DrumSlits x, int pace, int start, int sum) {
        check.same(name + ": P", x.bent(0, 0), pace);
        check.same(name + ": Q", x.bent(0, 1), start);
        check.same(name + ": sum", x.bent(0, 2), sum);
    }

    /** "what a SHEET has": BAD, no such SHEET. */
    private static void bentSheet() {
        DrumSlits x = seen(0, 7);
        Check.row(x, 3, 0, 8);
        check.same("SHEET -1", x.bent(-1, 1), -2);
        check.same("SHEET 0", x.bent(0, 1), 7);
        check.same("SHEET 3", x.bent(3, 1), 8);
        check.same("SHEET 4", x.bent(4, 1), -2);
    }

    /** "BENT: P (what = 0), Q (1), the sum (2). BAD". */
    private static void bentWhat() {
        DrumSlits x = seen(0, 7, 10, 13, 17);
        check.same("bent what -1", x.bent(0, -1), -2);
        check.same("bent what 0", x.bent(0, 0), 3);
        check.same("bent what 1", x.bent(0, 1), 7);
        check.same("bent what 2", x.bent(0, 2), 1);
        check.same("bent what 3", x.bent(0, 3), -2);
        check.same("bent what, the least", x.bent(0, LEAST), -2);
        check.same("bent what, the most", x.bent(0, MOST), -2);
        check.same("no FINDING", x.count(8), 0);
    }

    /** "NULL", behind BAD. */
    private static void bentLost() {
        DrumSlits x = new DrumSlits();
        check.same("LOST, BAD ahead", x.bent(0, 3), -2);
        check.same("BAD is no FINDING", x.count(8), 0);
        check.same("LOST", x.bent(0, 0), -11);
        check.same("its number", x.count(8), 1);
        x.sheet(0, 0, 1);
        check.same("not LOST", x.bent(0, 0), 0);
        x.lose(0);
        check.same("LOST again", x.bent(0, 0), -11);
    }

    /** "NOT: it has no items." */
    private static void bentNoItems() {
        DrumSlits x = new DrumSlits();
        x.sheet(0, 0, 0);
        for (int what = 0; what <= 2; what++) {
            check.same("no items: " + what, x.bent(0, what), -3);
        }
        check.same("no items, BAD ahead", x.bent(0, 3), -2);
        x.sheet(0, 0, 1);
        blade("one item", x, 0, 0, 0);
    }

    /** "a blade stands at Q"; "Q (0 to 59)". */
    private static void bentStarts() {
        blade("Q 0", seen(0, 0), 0, 0, 0);
        blade("Q 1", seen(0, 1), 0, 1, 0);
        blade("Q 29", seen(0, 29), 0, 29, 0);
        blade("Q 30", seen(0, 30), 0, 30, 0);
        blade("Q 31", seen(0, 31), 0, 31, 0);
        blade("Q 59", seen(0, 59), 0, 59, 0);
        blade("Q 60 is 0", seen(0, 60), 0, 0, 0);
        blade("Q -1 is 59", seen(0, -1), 0, 59, 0);
    }

    /** "and P times y"; "P .. (0 to 59)". */
    private static void bentPaces() {
        blade("P 0", seen(0, 5, 5), 0, 5, 0);
        blade("P 1", seen(0, 5, 6), 1, 5, 0);
        blade("P 59", seen(0, 5, 4), 59, 5, 0);
        blade("P 59 on", seen(0, 5, 64), 59, 5, 0);
        blade("P 60 is 0", seen(0, 5, 65), 0, 5, 0);
        blade("P 30", seen(0, 5, 35), 30, 5, 0);
    }

    /** "(sixtieths of a turn, round)". */
    private static void bentRound() {
        blade("on over the end", seen(0, 58, 59, 0, 1), 1, 58, 0);
        blade("back over it", seen(0, 1, 0, 59, 58), 59, 1, 0);
        blade("by 20", seen(0, 0, 20, 40, 0), 20, 0, 0);
    }

    /** "is where it is seen (taken round, modulo 60)". */
    private static void bentItemsRound() {
        blade("59", seen(1, 59), 0, 59, 0);
        blade("60", seen(1, 60), 0, 0, 0);
        blade("61", seen(1, 61), 0, 1, 0);
        blade("-59", seen(1, -59), 0, 1, 0);
        blade("-60", seen(1, -60), 0, 0, 0);
        blade("-61", seen(1, -61), 0, 59, 0);
        blade("a byte of 127", seen(0, 127), 0, 7, 0);
        blade("a byte of 128 is -128", seen(0, 128), 0, 52, 0);
        blade("a short of 32768 is -32768", seen(1, 32768), 0, 52, 0);
        blade("the most int", seen(2, MOST), 0, 7, 0);
        blade("the least int", seen(2, LEAST), 0, 52, 0);
    }

    /** "the amounts of ways from there to what is seen": 30 at most, on or back alike. */
    private static void bentAmounts() {
        blade("one on", seen(0, 5, 5, 6, 5, 5), 0, 5, 1);
        blade("one back", seen(0, 5, 5, 4, 5, 5), 0, 5, 1);
        blade("one over the end", seen(0, 0, 0, 59, 0, 0), 0, 0, 1);
        blade("one half round", seen(0, 5, 5, 5, 5, 35, 5, 5, 5, 5), 0, 5, 30);
        blade("one 29 back", seen(0, 5, 5, 5, 5, 36, 5, 5, 5, 5), 0, 5, 29);
    }

    /** "of like ones the least P". */
    private static void bentLeastPace() {
        blade("one row: any P", seen(0, 17), 0, 17, 0);
        blade("P 0 or 1 or 30", seen(0, 0, 0, 1), 0, 0, 1);
        blade("P 1, Q 59 would do, too", seen(0, 0, 0, 1, 1), 0, 0, 2);
    }

    /** "then Q". */
    private static void bentLeastStart() {
        blade("Q 5 or 6", seen(0, 5, 5, 6, 6), 0, 5, 2);
        blade("Q 0 or 59: the least", seen(0, 59, 59, 0, 0), 0, 0, 2);
    }

    /** "item by item from row 0 on": 60 rows at most. */
    private static void bentSixtyRows() {
        int[] spots = new int[60];
        for (int y = 0; y < 60; y++) {
            spots[y] = 59 * y + 59;
        }
        blade("sixty rows", seen(2, spots), 59, 59, 0);
        spots[59] += 30;
        blade("the last is half round off", seen(2, spots), 59, 59, 30);
        spots[59] -= 30;
        spots[0] += 1;
        blade("the first is one off", seen(2, spots), 59, 59, 1);
    }
}
