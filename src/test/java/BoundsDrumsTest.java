/** Boundary cases of FRACTIONS, of Terms 2 and of promises 9 to 12: a test for each sentence. */
public final class BoundsDrumsTest {
    private static final Check check = new Check("BoundsDrumsTest");
    private static final String TWELVE = "1111;1112;1113;1114;1115;1116;1117;1118;1119;1120;1121;1122";
    private static final int STANDS = 0, GOES = 1, FORWARD = 2, BACKWARD = 3;
    private static final int LEAST = Integer.MIN_VALUE;
    private static final int MOST = Integer.MAX_VALUE;

    public static void main(String[] args) {
        nothing();
        lowestTerms();
        slitNumbers();
        pictureNumbers();
        nearest();
        driftSign();
        standsOrGoes();
        forwardOrBackward();
        drumWhat();
        driftWhat();
        seenStrip();
        seenSlits();
        seenLook();
        seenModulo();
        seenAsManyPictures();
        round();
        seenNot();
        numbersAdvance();
        numbersSeeming();
        numbersOrder();
        numbersBeyond();
        numbersEnds();
        check.end();
    }

    private static void drum(int slits, int pictures, int advance, int seeming, int above, int below) {
        DrumSlits x = new DrumSlits();
        String call = "(" + slits + ", " + pictures + ", ";
        check.same("drum" + call + "0)", x.drum(slits, pictures, 0), advance);
        check.same("drum" + call + "1)", x.drum(slits, pictures, 1), seeming);
        check.same("drift" + call + "0)", x.drift(slits, pictures, 0), above);
        check.same("drift" + call + "1)", x.drift(slits, pictures, 1), below);
    }

    private static void bad(int slits, int pictures, int what) {
        DrumSlits x = new DrumSlits();
        String call = "(" + slits + ", " + pictures + ", " + what + ")";
        check.same("drum" + call, x.drum(slits, pictures, what), -2);
        check.same("drift" + call, x.drift(slits, pictures, what), Check.BAD_LONG);
    }

    // ---- FRACTIONS

    /** "FRACTIONS are told .. (0 by 1)". */
    private static void nothing() {
        drum(24, 24, 1, GOES, 0, 1);
        drum(24, 23, 1, BACKWARD, -1, 24);
        drum(23, 24, 1, FORWARD, 1, 23);
        drum(1, 24, 24, STANDS, 0, 1);
        drum(12, 24, 2, GOES, 0, 1);
    }

    /** "FRACTIONS are told in lowest terms, above and below". */
    private static void lowestTerms() {
        drum(24, 2, 0, FORWARD, 1, 12);
        drum(24, 12, 0, FORWARD, 1, 2);
        drum(24, 22, 1, BACKWARD, -1, 12);
        drum(24, 16, 1, BACKWARD, -1, 3);
        drum(24, 11, 0, FORWARD, 11, 24);
        drum(24, 14, 1, BACKWARD, -5, 12);
    }

    // ---- SLITS, PICTURES

    /** "A DRUM has SLITS .. (1 to 24 each)". */
    private static void slitNumbers() {
        bad(0, 1, 0);
        drum(1, 1, 1, STANDS, 0, 1);
        drum(24, 1, 0, FORWARD, 1, 24);
        bad(25, 1, 0);
        bad(-1, 1, 1);
        bad(LEAST, 24, 0);
        bad(MOST, 24, 1);
    }

    /** ".. and PICTURES (1 to 24 each)". */
    private static void pictureNumbers() {
        bad(1, 0, 0);
        drum(2, 1, 0, FORWARD, 1, 2);
        drum(1, 24, 24, STANDS, 0, 1);
        drum(2, 24, 12, GOES, 0, 1);
        bad(1, 25, 0);
        bad(1, -1, 1);
        bad(24, LEAST, 0);
        bad(24, MOST, 1);
    }

    // ---- ADVANCE, DRIFT, SEEMING

    /** "ADVANCE is the whole number nearest to that (of two the lesser)". */
    private static void nearest() {
        drum(24, 11, 0, FORWARD, 11, 24);
        drum(24, 12, 0, FORWARD, 1, 2);
        drum(24, 13, 1, BACKWARD, -11, 24);
        drum(2, 1, 0, FORWARD, 1, 2);
        drum(2, 3, 1, FORWARD, 1, 2);
        drum(2, 23, 11, FORWARD, 1, 2);
        drum(16, 23, 1, FORWARD, 7, 16);
        drum(16, 24, 1, FORWARD, 1, 2);
        drum(15, 23, 2, BACKWARD, -7, 15);
        drum(3, 1, 0, FORWARD, 1, 3);
        drum(3, 2, 1, BACKWARD, -1, 3);
    }

    /** "DRIFT that less ADVANCE": from above -1/2 up to 1/2. */
    private static void driftSign() {
        drum(23, 11, 0, FORWARD, 11, 23);
        drum(23, 12, 1, BACKWARD, -11, 23);
        drum(22, 11, 0, FORWARD, 1, 2);
        drum(8, 12, 1, FORWARD, 1, 2);
        drum(8, 13, 2, BACKWARD, -3, 8);
    }

    /** "0 it STANDS (DRIFT 0, ADVANCE a multiple of PICTURES), 1 it GOES (DRIFT 0 else)". */
    private static void standsOrGoes() {
        drum(1, 1, 1, STANDS, 0, 1);
        drum(2, 2, 1, GOES, 0, 1);
        drum(1, 2, 2, STANDS, 0, 1);
        drum(2, 4, 2, GOES, 0, 1);
        drum(2, 1, 0, FORWARD, 1, 2);
        drum(24, 24, 1, GOES, 0, 1);
    }

    /** "2 it drifts FORWARD (DRIFT above 0), 3 BACKWARD (below)". */
    private static void forwardOrBackward() {
        drum(24, 1, 0, FORWARD, 1, 24);
        drum(23, 22, 1, BACKWARD, -1, 23);
        drum(23, 23, 1, GOES, 0, 1);
        drum(23, 24, 1, FORWARD, 1, 23);
        drum(11, 24, 2, FORWARD, 2, 11);
        drum(13, 24, 2, BACKWARD, -2, 13);
    }

    // ---- promises 9 and 10

    /** "ADVANCE (what = 0), SEEMING (1). BAD." */
    private static void drumWhat() {
        DrumSlits x = new DrumSlits();
        check.same("drum what -1", x.drum(12, 11, -1), -2);
        check.same("drum what 0", x.drum(12, 11, 0), 1);
        check.same("drum what 1", x.drum(12, 11, 1), BACKWARD);
        check.same("drum what 2", x.drum(12, 11, 2), -2);
        check.same("drum what, the least", x.drum(12, 11, LEAST), -2);
        check.same("drum what, the most", x.drum(12, 11, MOST), -2);
    }

    /** "DRIFT: above, below. BAD. (A refusal -x is the least long and x more.)" */
    private static void driftWhat() {
        DrumSlits x = new DrumSlits();
        check.same("drift what -1", x.drift(12, 11, -1), Long.MIN_VALUE + 2);
        check.same("drift what 0, no refusal", x.drift(12, 11, 0), -1);
        check.same("drift what 1", x.drift(12, 11, 1), 12);
        check.same("drift what 2", x.drift(12, 11, 2), Long.MIN_VALUE + 2);
    }

    // ---- promise 11

    /** "SEEN; .. BAD": no such STRIP. */
    private static void seenStrip() {
        DrumSlits x = Check.strips("1111;2222", "1111;2222;3333");
        check.same("seen STRIP -1", x.seen(-1, 2, 0), -2);
        check.same("seen STRIP 0", x.seen(0, 2, -1), 2);
        check.same("seen STRIP 1", x.seen(1, 3, -1), 3);
        check.same("seen STRIP 2", x.seen(2, 2, 0), -2);
    }

    /** "SEEN at LOOK k .. with so many SLITS (1 to 24)". */
    private static void seenSlits() {
        DrumSlits x = Check.strips(TWELVE, "");
        check.same("SLITS 0", x.seen(0, 0, 1), -2);
        check.same("SLITS 1: ADVANCE 12", x.seen(0, 1, 1), 0);
        check.same("SLITS 2: ADVANCE 6", x.seen(0, 2, 1), 6);
        check.same("SLITS 23: ADVANCE 1", x.seen(0, 23, 1), 1);
        check.same("SLITS 24: ADVANCE 0, of 1/2 the lesser", x.seen(0, 24, 1), 0);
        check.same("SLITS 25", x.seen(0, 25, 1), -2);
        check.same("SLITS 0, ROUND", x.seen(0, 0, -1), -2);
        check.same("SLITS 25, ROUND", x.seen(0, 25, -1), -2);
        check.same("SLITS -1", x.seen(0, -1, 1), -2);
    }

    /** "SEEN at LOOK k (0 to 999)"; "ROUND (k = NONE)". */
    private static void seenLook() {
        DrumSlits x = Check.strips(TWELVE, "");
        check.same("k -2", x.seen(0, 12, -2), -2);
        check.same("k NONE: ROUND", x.seen(0, 12, -1), 12);
        check.same("k 0", x.seen(0, 12, 0), 0);
        check.same("k 1", x.seen(0, 12, 1), 1);
        check.same("k 998", x.seen(0, 12, 998), 2);
        check.same("k 999", x.seen(0, 12, 999), 3);
        check.same("k 1000", x.seen(0, 12, 1000), -2);
        check.same("k, the least", x.seen(0, 12, LEAST), -2);
        check.same("k, the most", x.seen(0, 12, MOST), -2);
    }

    /** "k times ADVANCE .. modulo these". */
    private static void seenModulo() {
        DrumSlits x = Check.strips(TWELVE, "");
        check.same("11 times 1: the last", x.seen(0, 12, 11), 11);
        check.same("12 times 1: the first again", x.seen(0, 12, 12), 0);
        check.same("13 times 1", x.seen(0, 12, 13), 1);
        check.same("2 times 4", x.seen(0, 3, 2), 8);
        check.same("3 times 4", x.seen(0, 3, 3), 0);
        check.same("2 times 5: of 12 by 2.4 not", x.seen(0, 5, 2), 4);
        check.same("999 times 12", x.seen(0, 1, 999), 0);
        check.same("999 times 6", x.seen(0, 2, 999), 6);
    }

    /** "(with as many PICTURES as it has)". */
    private static void seenAsManyPictures() {
        DrumSlits x = Check.strips("1111", "1111;2222;3333");
        check.same("one by one slit", x.seen(0, 1, 1), 0);
        check.same("three by three slits", x.seen(1, 3, 1), 1);
        x.type(1, ';');
        x.type(1, '1');
        x.type(1, '1');
        x.type(1, '1');
        check.same("the fourth is not ended", x.seen(1, 3, 1), -3);
        x.type(1, '1');
        check.same("four by three slits, round", x.seen(1, 3, -1), 4);
        check.same("four by two slits", x.seen(1, 2, 1), 2);
        check.same("four by two slits, round", x.seen(1, 2, -1), 2);
    }

    /** "ROUND: after how many LOOKS (1 on) PICTURE 0 is SEEN again." */
    private static void round() {
        DrumSlits x = Check.strips(TWELVE, "1111");
        check.same("ADVANCE 0: at the next LOOK", x.seen(0, 24, -1), 1);
        check.same("ADVANCE 1: all twelve", x.seen(0, 23, -1), 12);
        check.same("ADVANCE 12: at the next LOOK", x.seen(0, 1, -1), 1);
        check.same("ADVANCE 6", x.seen(0, 2, -1), 2);
        check.same("ADVANCE 4", x.seen(0, 3, -1), 3);
        check.same("ADVANCE 3", x.seen(0, 4, -1), 4);
        check.same("ADVANCE 2", x.seen(0, 5, -1), 6);
        check.same("ADVANCE 1 of 1.5", x.seen(0, 8, -1), 12);
        check.same("ADVANCE 2 of 12 by 7", x.seen(0, 7, -1), 6);
        check.same("one alone, ADVANCE 1", x.seen(1, 1, -1), 1);
        check.same("one alone, ADVANCE 0", x.seen(1, 24, -1), 1);
        Check.retype(x, 1, "1111;2222;3333;4444;5555");
        check.same("five, ADVANCE 2 of 2.5: all five", x.seen(1, 2, -1), 5);
        Check.retype(x, 1, "1111;2222;3333;4444;5555;6666;7777;8888;9999;0000");
        check.same("ten, ADVANCE 3: all ten", x.seen(1, 3, -1), 10);
        check.same("ten, ADVANCE 2", x.seen(1, 4, -1), 5);
    }

    /** "NOT: the STRIP has no PICTURES." */
    private static void seenNot() {
        DrumSlits x = Check.strips("", "1111");
        check.same("none", x.seen(0, 1, 0), -3);
        check.same("none, ROUND", x.seen(0, 1, -1), -3);
        check.same("none, k 999", x.seen(0, 24, 999), -3);
        check.same("one", x.seen(1, 1, 0), 0);
        check.same("none, BAD SLITS ahead", x.seen(0, 0, 0), -2);
        check.same("none, BAD k ahead", x.seen(0, 1, 1000), -2);
        x.type(1, 'x');
        check.same("one and a FAULT", x.seen(1, 1, 0), -3);
    }

    // ---- promise 12

    /** "pairs of SLITS and PICTURES with a told ADVANCE (0 to 24)". */
    private static void numbersAdvance() {
        DrumSlits x = new DrumSlits();
        check.same("ADVANCE -1", x.numbers(-1, FORWARD, -1), -2);
        check.same("ADVANCE 0", x.numbers(0, FORWARD, -1), 144);
        check.same("ADVANCE 24", x.numbers(24, STANDS, -1), 1);
        check.same("ADVANCE 24, the pair", x.numbers(24, STANDS, 0), 124);
        check.same("ADVANCE 25", x.numbers(25, STANDS, -1), -2);
        check.same("ADVANCE, the least", x.numbers(LEAST, STANDS, 0), -2);
        check.same("ADVANCE, the most", x.numbers(MOST, STANDS, 0), -2);
        check.same("ADVANCE 12, it GOES", x.numbers(12, GOES, 0), 224);
        check.same("ADVANCE 13, it GOES", x.numbers(13, GOES, 0), -1);
        check.same("ADVANCE 11, FORWARD: 23 by 2", x.numbers(11, FORWARD, 0), 223);
        check.same("ADVANCE 12, FORWARD", x.numbers(12, FORWARD, 0), -1);
    }

    /** ".. and SEEMING" (0 to 3). */
    private static void numbersSeeming() {
        DrumSlits x = new DrumSlits();
        check.same("SEEMING -1", x.numbers(1, -1, 0), -2);
        check.same("SEEMING 0", x.numbers(1, STANDS, 0), 101);
        check.same("SEEMING 1", x.numbers(1, GOES, 0), 202);
        check.same("SEEMING 2", x.numbers(1, FORWARD, 0), 203);
        check.same("SEEMING 3", x.numbers(1, BACKWARD, 0), 302);
        check.same("SEEMING 4", x.numbers(1, 4, 0), -2);
        check.same("SEEMING 4, how many", x.numbers(1, 4, -1), -2);
        check.same("ADVANCE 0 is never BACKWARD", x.numbers(0, BACKWARD, -1), 0);
    }

    /** "SLITS from 1 on, then PICTURES: .. the i-th (as 100 times SLITS, and PICTURES)". */
    private static void numbersOrder() {
        DrumSlits x = new DrumSlits();
        int[] due = {201, 301, 401, 402, 501, 502, 601};
        for (int i = 0; i < due.length; i++) {
            check.same("ADVANCE 0, FORWARD: " + i, x.numbers(0, FORWARD, i), due[i]);
        }
        check.same("the last of 24", x.numbers(0, FORWARD, 143), 2412);
        check.same("the one before it", x.numbers(0, FORWARD, 142), 2411);
        check.same("the last that GOES", x.numbers(1, GOES, 22), 2424);
    }

    /** "how many (i = NONE), the i-th; NONE beyond. BAD." */
    private static void numbersBeyond() {
        DrumSlits x = new DrumSlits();
        check.same("i -2", x.numbers(1, GOES, -2), -2);
        check.same("i NONE: how many", x.numbers(1, GOES, -1), 23);
        check.same("i 0", x.numbers(1, GOES, 0), 202);
        check.same("i 22, the last", x.numbers(1, GOES, 22), 2424);
        check.same("i 23, beyond", x.numbers(1, GOES, 23), -1);
        check.same("i, the most", x.numbers(1, GOES, MOST), -1);
        check.same("i, the least", x.numbers(1, GOES, LEAST), -2);
        check.same("none: how many", x.numbers(0, STANDS, -1), 0);
        check.same("none: the first is beyond", x.numbers(0, STANDS, 0), -1);
        check.same("one: the first", x.numbers(1, STANDS, 0), 101);
        check.same("one: beyond", x.numbers(1, STANDS, 1), -1);
    }

    /** SLITS and PICTURES up to 24 are among the pairs, none above. */
    private static void numbersEnds() {
        DrumSlits x = new DrumSlits();
        int all = 0;
        for (int advance = 0; advance <= 24; advance++) {
            for (int seeming = 0; seeming <= 3; seeming++) {
                all += x.numbers(advance, seeming, -1);
            }
        }
        check.same("all 24 by 24 pairs", all, 576);
    }
}
