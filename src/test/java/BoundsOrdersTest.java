/** Boundary cases of ORDER, MISSING, HALF and FEW (Terms 5) and of promises 25 to 29: a test for each sentence. */
public final class BoundsOrdersTest {
    private static final Check check = new Check("BoundsOrdersTest");
    private static final String EIGHT = "1110;1111;1112;1113;1114;1115;1116;1117";
    private static final String TWELVE = "0000;1111;2222;3333;4444;5555;6666;7777;8888;9999;0909;9090";
    private static final int LEAST = Integer.MIN_VALUE;
    private static final int MOST = Integer.MAX_VALUE;

    public static void main(String[] args) {
        orders();
        lacks();
        halves();
        fewest();
        check.end();
    }

    private static DrumSlits strip(String text) {
        return Check.strips(text, "");
    }

    // ---- promises 25 and 26

    private static void orders() {
        orderStrip();
        orderItem();
        orderMostPictures();
        orderNot();
        orderRefusalsAhead();
        orderPictureZero();
        orderLeastRow();
        ordersLikeOnes();
        ordersStrip();
        ordersRefusals();
    }

    private static void ordered(String text, int sum, int rows, int... row) {
        DrumSlits x = strip(text);
        check.same(text + ": WHOLE", x.order(0, -1), sum);
        check.same(text + ": rows", x.orders(0), rows);
        for (int i = 0; i < row.length; i++) {
            check.same(text + ": " + i, x.order(0, i), row[i]);
        }
        check.same(text + ": beyond", x.order(0, row.length), -2);
    }

    /** "BAD": no such STRIP. */
    private static void orderStrip() {
        DrumSlits x = Check.strips("1111", "1111;2222");
        check.same("order STRIP -1", x.order(-1, 0), -2);
        check.same("order STRIP 0", x.order(0, -1), 0);
        check.same("order STRIP 1", x.order(1, -1), 8);
        check.same("order STRIP 2", x.order(2, 0), -2);
        check.same("order STRIP 2, WHOLE", x.order(2, -1), -2);
    }

    /** "the i-th of the row (0 on); the WHOLE (i = NONE). BAD: also beyond". */
    private static void orderItem() {
        DrumSlits x = strip("1111;2222;5555");
        check.same("i -2", x.order(0, -2), -2);
        check.same("i NONE", x.order(0, -1), 32);
        check.same("i 0", x.order(0, 0), 0);
        check.same("i 2, the last", x.order(0, 2), 2);
        check.same("i 3, beyond", x.order(0, 3), -2);
        check.same("i 8", x.order(0, 8), -2);
        check.same("i, the most", x.order(0, MOST), -2);
        check.same("i, the least", x.order(0, LEAST), -2);
        check.same("i 7, the last of eight", strip(EIGHT).order(0, 7), 7);
        check.same("i 8, beyond eight", strip(EIGHT).order(0, 8), -2);
        check.same("i 1, beyond one", strip("1111").order(0, 1), -2);
    }

    /** "(8 at most: FULL)". */
    private static void orderMostPictures() {
        ordered(EIGHT, 14, 64, 0, 1, 2, 3, 4, 5, 6, 7);
        DrumSlits x = strip(EIGHT + ";1118");
        check.same("nine: order", x.order(0, 0), -4);
        check.same("nine: WHOLE", x.order(0, -1), -4);
        check.same("nine: orders", x.orders(0), -4);
        x = strip(TWELVE);
        check.same("twelve: order", x.order(0, 0), -4);
        check.same("twelve: orders", x.orders(0), -4);
    }

    /** "NOT: the STRIP has no PICTURES". */
    private static void orderNot() {
        DrumSlits x = Check.strips("", "1111;");
        check.same("empty: order", x.order(0, 0), -3);
        check.same("empty: WHOLE", x.order(0, -1), -3);
        check.same("empty: orders", x.orders(0), -3);
        check.same("a FAULT: order", x.order(1, 0), -3);
        check.same("a FAULT: orders", x.orders(1), -3);
        ordered("1111", 0, 1, 0);
    }

    /** "FULL, both ahead of an i beyond" (but an i below NONE is BAD ahead of them). */
    private static void orderRefusalsAhead() {
        DrumSlits x = Check.strips("", EIGHT + ";1118");
        check.same("empty, i beyond", x.order(0, 0), -3);
        check.same("empty, i far beyond", x.order(0, MOST), -3);
        check.same("empty, i -2", x.order(0, -2), -2);
        check.same("nine, i the last", x.order(1, 8), -4);
        check.same("nine, i beyond", x.order(1, 9), -4);
        check.same("nine, i far beyond", x.order(1, MOST), -4);
        check.same("nine, i -2", x.order(1, -2), -2);
        check.same("no STRIP ahead of all", x.order(2, -2), -2);
    }

    /** "loose, PICTURE 0 first". */
    private static void orderPictureZero() {
        ordered("5000;0000;9000", 18, 2, 0, 1, 2);
        ordered("9000;0000;1000;2000", 18, 4, 0, 1, 2, 3);
        ordered("1000;0000", 2, 1, 0, 1);
    }

    /** "the row in which the WHOLE is least, of like ones the least". */
    private static void orderLeastRow() {
        ordered("0000;1000;2000", 4, 2, 0, 1, 2);
        ordered("0000;2000;1000", 4, 2, 0, 1, 2);
        ordered("0000;1100;1000;0100", 4, 2, 0, 2, 1, 3);
        ordered("0000;1000;1100;0100", 4, 2, 0, 1, 2, 3);
        ordered("0000;3000;1000;2000", 6, 4, 0, 1, 3, 2);
        check.same("the STRIP as it is has more", strip("0000;3000;1000;2000").whole(0), 8);
    }

    /** "how many rows have it". */
    private static void ordersLikeOnes() {
        ordered("1111;1111", 0, 1, 0, 1);
        ordered("1111;1111;1111", 0, 2, 0, 1, 2);
        ordered("1111;1111;1111;1111;1111;1111;1111;1111", 0, 5040, 0, 1, 2, 3, 4, 5, 6, 7);
        // Two squares of PICTURES: unlike ones in two rows, the one and its way back.
        ordered("0000;2000;2200;0200", 8, 2, 0, 1, 2, 3);
    }

    /** "In how many rows the WHOLE is least. BAD". */
    private static void ordersStrip() {
        DrumSlits x = Check.strips("1111", "1111;2222;3333");
        check.same("orders STRIP -1", x.orders(-1), -2);
        check.same("orders STRIP 0", x.orders(0), 1);
        check.same("orders STRIP 1", x.orders(1), 2);
        check.same("orders STRIP 2", x.orders(2), -2);
    }

    /** "NOT, FULL: likewise." */
    private static void ordersRefusals() {
        DrumSlits x = Check.strips("", EIGHT);
        check.same("none", x.orders(0), -3);
        check.same("eight", x.orders(1), 64);
        x.type(1, ';');
        check.same("eight and a FAULT", x.orders(1), -3);
        for (int i = 0; i < 4; i++) {
            x.type(1, '1');
        }
        check.same("nine", x.orders(1), -4);
    }

    // ---- promise 27

    private static void lacks() {
        missingStrip();
        missingWhat();
        missingNot();
        missingNowhere();
        missingOfOne();
        missingRound();
        missingLikeOnes();
        missingByGap();
        missingOfTwelve();
    }

    private static void lacks(String text, int behind, int less) {
        DrumSlits x = strip(text);
        check.same(text + ": behind", x.missing(0, 0), behind);
        check.same(text + ": by how much", x.missing(0, 1), less);
    }

    /** "BAD": no such STRIP. */
    private static void missingStrip() {
        DrumSlits x = Check.strips("0000;1000;9000", "0000;8000");
        check.same("missing STRIP -1", x.missing(-1, 0), -2);
        check.same("missing STRIP 0", x.missing(0, 0), 2);
        check.same("missing STRIP 1", x.missing(1, 0), 0);
        check.same("missing STRIP 2", x.missing(2, 0), -2);
    }

    /** "behind which PICTURE (what = 0; NONE), by how much (1; 0). BAD". */
    private static void missingWhat() {
        DrumSlits x = strip("0000;8000");
        check.same("missing what -1", x.missing(0, -1), -2);
        check.same("missing what 0", x.missing(0, 0), 0);
        check.same("missing what 1", x.missing(0, 1), 32);
        check.same("missing what 2", x.missing(0, 2), -2);
        check.same("missing what, the least", x.missing(0, LEAST), -2);
        check.same("missing what, the most", x.missing(0, MOST), -2);
    }

    /** "NOT: likewise": no PICTURES. */
    private static void missingNot() {
        DrumSlits x = Check.strips("", "1111;");
        check.same("empty", x.missing(0, 0), -3);
        check.same("empty, by how much", x.missing(0, 1), -3);
        check.same("a FAULT", x.missing(1, 0), -3);
        check.same("empty, BAD ahead", x.missing(0, 2), -2);
        lacks("1111", -1, 0);
    }

    /** "(NONE: it would nowhere); by how much (then 0)". */
    private static void missingNowhere() {
        lacks("0000;0000", -1, 0);
        lacks("0000;1000", -1, 0);
        lacks("0000;2000", 0, 2);
        lacks("0000;1000;1000", -1, 0);
        // Two PARTS by one each: both halves are cut to where they were.
        lacks("0000;1100", -1, 0);
        // By one and by two: 9 becomes 1 and 4.
        lacks("0000;1200", 0, 4);
    }

    /** "one more, HALF way to the next (round)": of one alone to itself. */
    private static void missingOfOne() {
        lacks("1111", -1, 0);
        lacks("----", -1, 0);
        lacks("0909;9090", 0, 36 * 36 - 18 * 18 - 18 * 18);
    }

    /** "behind which PICTURE .. (round)": behind the last, too. */
    private static void missingRound() {
        lacks("0000;1000;5000", 2, 25 - 4 - 9);
        lacks("0000;5000;4000", 0, 25 - 4 - 9);
        lacks("0000;1000;9000;8000", 1, 64 - 16 - 16);
        lacks("0000;1000;3000;9000", 3, 81 - 16 - 25);
    }

    /** "most; of like ones the first". */
    private static void missingLikeOnes() {
        lacks("0000;4000;0000;4000", 0, 8);
        lacks("0000;0000;4000;0000", 1, 8);
        lacks("0000;4000;0000;5000", 2, 25 - 4 - 9);
        lacks("4000;4000;0000;0000", 1, 8);
    }

    /** "HALF: .. of one that one of both alone has that": on one side alone it is a GAP. */
    private static void missingByGap() {
        // All of GAPS are on one side of the HALF: 81 becomes 0 and 81.
        lacks("0000;---0", -1, 0);
        // Each has two that the other has not: 12 becomes 6 and 6.
        lacks("00--;--00", 0, 144 - 36 - 36);
        DrumSlits x = strip("00--;--00");
        x.set(0, 0);
        check.same("GAP 0", x.missing(0, 0), -1);
        check.same("GAP 0, by how much", x.missing(0, 1), 0);
        x.set(0, 1);
        check.same("GAP 1", x.missing(0, 0), 0);
        check.same("GAP 1, by how much", x.missing(0, 1), 16 - 4 - 4);
    }

    /** No FULL: twelve are not too many. */
    private static void missingOfTwelve() {
        lacks("1110;1111;1112;1113;1114;1115;1116;1117;1118;1119;1119", 10, 81 - 16 - 25);
        lacks("1110;1111;1112;1113;1114;1115;1116;1117;1118;1119;1119;1119", 11, 81 - 16 - 25);
    }

    // ---- promise 28

    private static void halves() {
        halfStrip();
        halfPicture();
        halfPart();
        halfCut();
        halfOneAlone();
        halfRound();
    }

    /** "BAD": no such STRIP. */
    private static void halfStrip() {
        DrumSlits x = Check.strips("2000;4000", "6000;8000");
        check.same("half STRIP -1", x.half(-1, 0, 0), -2);
        check.same("half STRIP 0", x.half(0, 0, 0), 3);
        check.same("half STRIP 1", x.half(1, 0, 0), 7);
        check.same("half STRIP 2", x.half(2, 0, 0), -2);
    }

    /** "HALF behind a PICTURE": 0 to the last. */
    private static void halfPicture() {
        DrumSlits x = strip("2000;4000;8000");
        check.same("half PICTURE -1", x.half(0, -1, 0), -2);
        check.same("half PICTURE 0", x.half(0, 0, 0), 3);
        check.same("half PICTURE 1", x.half(0, 1, 0), 6);
        check.same("half PICTURE 2, the last", x.half(0, 2, 0), 5);
        check.same("half PICTURE 3", x.half(0, 3, 0), -2);
        check.same("half PICTURE, the least", x.half(0, LEAST, 0), -2);
        check.same("half PICTURE, the most", x.half(0, MOST, 0), -2);
        check.same("of twelve the last", strip(TWELVE).half(0, 11, 0), 4);
        check.same("of twelve beyond", strip(TWELVE).half(0, 12, 0), -2);
        check.same("of none", strip("").half(0, 0, 0), -2);
        check.same("with a FAULT", strip("1111;").half(0, 0, 0), -2);
    }

    /** "the PLACE of a PART": 0 to 3. */
    private static void halfPart() {
        DrumSlits x = strip("2468;4680");
        check.same("half PART -1", x.half(0, 0, -1), -2);
        check.same("half PART 0", x.half(0, 0, 0), 3);
        check.same("half PART 3", x.half(0, 0, 3), 4);
        check.same("half PART 4", x.half(0, 0, 4), -2);
        check.same("half PART, the least", x.half(0, 0, LEAST), -2);
        check.same("half PART, the most", x.half(0, 0, MOST), -2);
    }

    /** "HALF: of each PART half (cut) of both PLACES together". */
    private static void halfCut() {
        DrumSlits x = strip("0018;0129");
        check.same("0 and 0", x.half(0, 0, 0), 0);
        check.same("0 and 1", x.half(0, 0, 1), 0);
        check.same("1 and 2", x.half(0, 0, 2), 1);
        check.same("8 and 9", x.half(0, 0, 3), 8);
        check.same("9 and 8, back", x.half(0, 1, 3), 8);
        x = strip("0990;2979");
        check.same("0 and 2", x.half(0, 0, 0), 1);
        check.same("9 and 9", x.half(0, 0, 1), 9);
        check.same("9 and 7", x.half(0, 0, 2), 8);
        check.same("0 and 9", x.half(0, 0, 3), 4);
    }

    /** "of one that one of both alone has that; else not seen"; "NONE: it is not seen". */
    private static void halfOneAlone() {
        DrumSlits x = strip("9-0-;-80-");
        check.same("the first alone", x.half(0, 0, 0), 9);
        check.same("the next alone", x.half(0, 0, 1), 8);
        check.same("both have 0", x.half(0, 0, 2), 0);
        check.same("neither", x.half(0, 0, 3), -1);
        x = strip("0---;-0--");
        check.same("the first alone at 0", x.half(0, 0, 0), 0);
        check.same("the next alone at 0", x.half(0, 0, 1), 0);
        check.same("neither of these", x.half(0, 0, 2), -1);
    }

    /** "HALF way to the next (round)". */
    private static void halfRound() {
        DrumSlits x = Check.strips("2000;4000;9000", "7-00");
        check.same("behind the last", x.half(0, 2, 0), 5);
        check.same("behind the one before", x.half(0, 1, 0), 6);
        check.same("one alone: to itself", x.half(1, 0, 0), 7);
        check.same("one alone, not seen", x.half(1, 0, 1), -1);
        check.same("one alone has no next", x.half(1, 1, 0), -2);
    }

    // ---- promise 29

    private static void fewest() {
        fewStrip();
        fewStep();
        fewNot();
        fewAtMost();
        fewAnew();
        fewFarthest();
        fewItself();
        fewFewest();
        fewLikeOnes();
        fewOfTwelve();
    }

    /** "BAD": no such STRIP. */
    private static void fewStrip() {
        DrumSlits x = Check.strips("0000", "0000;9999");
        check.same("few STRIP -1", x.few(-1, 0), -2);
        check.same("few STRIP 0", x.few(0, 0), 1);
        check.same("few STRIP 1", x.few(1, 0), 3);
        check.same("few STRIP 2", x.few(2, 0), -2);
    }

    /** "a STEP of at most t (0 to 60)". */
    private static void fewStep() {
        DrumSlits x = strip("0000;9999");
        check.same("t -1", x.few(0, -1), -2);
        check.same("t 0", x.few(0, 0), 3);
        check.same("t 60", x.few(0, 60), 1);
        check.same("t 61", x.few(0, 61), -2);
        check.same("t, the least", x.few(0, LEAST), -2);
        check.same("t, the most", x.few(0, MOST), -2);
    }

    /** "NOT: likewise": no PICTURES. */
    private static void fewNot() {
        DrumSlits x = Check.strips("", "1111;");
        check.same("empty", x.few(0, 0), -3);
        check.same("empty, t 60", x.few(0, 60), -3);
        check.same("empty, BAD ahead", x.few(0, 61), -2);
        check.same("a FAULT", x.few(1, 0), -3);
        check.same("one", strip("1111").few(0, 0), 1);
    }

    /** "at most t": one of just t is near, one of t and 1 is not. */
    private static void fewAtMost() {
        DrumSlits x = strip("0000;5000");
        check.same("t 4", x.few(0, 4), 3);
        check.same("t 5", x.few(0, 5), 1);
        x = strip("0000;-000");
        check.same("t 2, GAP 3", x.few(0, 2), 3);
        check.same("t 3, GAP 3", x.few(0, 3), 1);
    }

    /** "at most t", of this call's t and of the GAP as it is: what an earlier call found near does not stay so. */
    private static void fewAnew() {
        DrumSlits x = strip("0000;5000;---0");
        check.same("t 60", x.few(0, 60), 1);
        check.same("t 5 behind it", x.few(0, 5), 5);
        check.same("t 4 behind it", x.few(0, 4), 7);
        x.set(0, 0);
        check.same("t 0 by GAP 0", x.few(0, 0), 4);
        x.set(0, 9);
        check.same("t 0 by GAP 9", x.few(0, 0), 7);
    }

    /** The farthest STEP that there is: 36, four PLACES by 9 or four GAPS of 9. */
    private static void fewFarthest() {
        DrumSlits x = strip("0000;9999");
        check.same("t 35", x.few(0, 35), 3);
        check.same("t 36", x.few(0, 36), 1);
        x = strip("0000;----");
        x.set(0, 9);
        check.same("t 35 by GAP", x.few(0, 35), 3);
        check.same("t 36 by GAP", x.few(0, 36), 1);
    }

    /** "(to itself 0)". */
    private static void fewItself() {
        check.same("each is near itself alone", strip("0000;1000;2000").few(0, 0), 7);
        check.same("like ones are near each other", strip("0000;1000;0000").few(0, 0), 3);
        check.same("not seen is near itself", strip("----;0---").few(0, 0), 3);
    }

    /** "FEW: the fewest PICTURES (bits)". */
    private static void fewFewest() {
        check.same("one is fewer than two less", strip("0000;9000;4000").few(0, 5), 4);
        check.same("two", strip("0000;9000;4000").few(0, 4), 3);
        check.same("three", strip("0000;9000;4000").few(0, 3), 7);
        check.same("the last alone", strip("0000;9990;4440").few(0, 15), 4);
        check.same("not the last alone", strip("0000;9990;4440").few(0, 14), 3);
    }

    /** "of like ones the least". */
    private static void fewLikeOnes() {
        check.same("any of three", strip("0000;0000;0000").few(0, 0), 1);
        check.same("either of two", strip("0000;1000").few(0, 1), 1);
        check.same("1 and 2, or 1 and 3", strip("0000;2000;8000;9000;4000").few(0, 2), 6);
        check.same("0 or 1 and 2 or 3", strip("0000;0000;9000;9000").few(0, 0), 5);
    }

    /** "FEW, as bits": 12 of them at most. */
    private static void fewOfTwelve() {
        check.same("all twelve", strip(TWELVE).few(0, 0), 4095);
        check.same("one of twelve", strip(TWELVE).few(0, 60), 1);
        check.same("eleven of twelve", strip(TWELVE.substring(0, 55) + "9999").few(0, 0), 2047);
    }
}
