/** Boundary cases of NARROW, WIDE and BEST SLIT (Terms 5) and of promises 22 to 24: a test for each sentence. */
public final class BoundsWidthsTest {
    private static final Check check = new Check("BoundsWidthsTest");
    private static final int LEAST = Integer.MIN_VALUE;
    private static final int MOST = Integer.MAX_VALUE;

    public static void main(String[] args) {
        narrowWidth();
        narrowStrip();
        narrowSlits();
        narrowWhat();
        narrowTerms();
        wideSeen();
        wideDistances();
        wideJust();
        wideFromOneOn();
        wideNone();
        slitLight();
        slitBlur();
        slitOneToTwenty();
        slitLikeOnes();
        check.end();
    }

    private static void narrow(int w, int a, int b, int above, int below) {
        DrumSlits x = new DrumSlits();
        String call = "narrow(" + w + ", " + a + ", " + b + ", ";
        check.same(call + "0)", x.narrow(w, a, b, 0), above);
        check.same(call + "1)", x.narrow(w, a, b, 1), below);
    }

    private static void badNarrow(int w, int a, int b) {
        DrumSlits x = new DrumSlits();
        String call = "narrow(" + w + ", " + a + ", " + b + ", ";
        check.same(call + "0)", x.narrow(w, a, b, 0), Long.MIN_VALUE + 2);
        check.same(call + "1)", x.narrow(w, a, b, 1), Long.MIN_VALUE + 2);
    }

    // ---- promise 22

    /** "NARROW: a PICTURE drawn W (1 to 99) wide". */
    private static void narrowWidth() {
        badNarrow(-1, 1, 1);
        badNarrow(0, 1, 1);
        narrow(1, 1, 1, 1, 2);
        narrow(99, 1, 1, 99, 2);
        badNarrow(100, 1, 1);
        badNarrow(LEAST, 1, 1);
        badNarrow(MOST, 1, 1);
    }

    /** "on a strip at A (1 to 99) from the axis". */
    private static void narrowStrip() {
        badNarrow(1, -1, 1);
        badNarrow(1, 0, 1);
        narrow(1, 1, 2, 2, 3);
        narrow(1, 99, 1, 1, 100);
        badNarrow(1, 100, 1);
        badNarrow(1, LEAST, 1);
        badNarrow(1, MOST, 1);
    }

    /** "with slits at B (1 to 99)". */
    private static void narrowSlits() {
        badNarrow(1, 1, -1);
        badNarrow(1, 1, 0);
        narrow(1, 2, 1, 1, 3);
        narrow(1, 1, 99, 99, 100);
        badNarrow(1, 1, 100);
        badNarrow(1, 1, LEAST);
        badNarrow(1, 1, MOST);
    }

    /** "NARROW: above, below. BAD. (A refusal -x is the least long and x more.)" */
    private static void narrowWhat() {
        DrumSlits x = new DrumSlits();
        check.same("narrow what -1", x.narrow(3, 1, 1, -1), Long.MIN_VALUE + 2);
        check.same("narrow what 0", x.narrow(3, 1, 1, 0), 3);
        check.same("narrow what 1", x.narrow(3, 1, 1, 1), 2);
        check.same("narrow what 2", x.narrow(3, 1, 1, 2), Long.MIN_VALUE + 2);
    }

    /** "a FRACTION", in lowest terms: a whole number is by 1. */
    private static void narrowTerms() {
        narrow(2, 1, 1, 1, 1);
        narrow(99, 99, 99, 99, 2);
        narrow(98, 99, 99, 49, 1);
        narrow(99, 1, 99, 9801, 100);
        narrow(50, 1, 99, 99, 2);
        narrow(99, 99, 1, 99, 100);
    }

    // ---- promise 23

    /** "that is seen at least V (0 to 99) wide". */
    private static void wideSeen() {
        DrumSlits x = new DrumSlits();
        check.same("V -1", x.wide(-1, 1, 1), -2);
        check.same("V 0", x.wide(0, 1, 1), 1);
        check.same("V 1", x.wide(1, 1, 1), 2);
        check.same("V 99", x.wide(99, 1, 1), 198);
        check.same("V 100", x.wide(100, 1, 1), -2);
        check.same("V, the least", x.wide(LEAST, 1, 1), -2);
        check.same("V, the most", x.wide(MOST, 1, 1), -2);
    }

    /** "A (1 to 99) .. B (1 to 99)", for wide(). */
    private static void wideDistances() {
        DrumSlits x = new DrumSlits();
        check.same("A 0", x.wide(1, 0, 1), -2);
        check.same("A 1", x.wide(1, 1, 1), 2);
        check.same("A 99", x.wide(1, 99, 1), 100);
        check.same("A 100", x.wide(1, 100, 1), -2);
        check.same("A -1", x.wide(1, -1, 1), -2);
        check.same("B 0", x.wide(1, 1, 0), -2);
        check.same("B 99", x.wide(1, 1, 99), 2);
        check.same("B 100", x.wide(1, 1, 100), -2);
        check.same("B -1", x.wide(1, 1, -1), -2);
        check.same("A, the least", x.wide(1, LEAST, 1), -2);
        check.same("B, the most", x.wide(1, 1, MOST), -2);
    }

    /** "at least V": just as wide does, a bit less does not. */
    private static void wideJust() {
        DrumSlits x = new DrumSlits();
        check.same("just 2 of 3", x.wide(2, 1, 2), 3);
        check.same("2.25 of 3", x.wide(2, 1, 3), 3);
        check.same("1.5 of 3 does not", x.wide(2, 1, 1), 4);
        check.same("just 99 of 198", x.wide(99, 99, 99), 198);
        check.same("98.01 of 99 does not", x.wide(99, 1, 99), 100);
    }

    /** "WIDE: the least W (1 .. ": 0 wide is seen with 1, not with 0. */
    private static void wideFromOneOn() {
        DrumSlits x = new DrumSlits();
        check.same("0 wide", x.wide(0, 99, 1), 1);
        check.same("0 wide, near", x.wide(0, 1, 99), 1);
        check.same("1 wide, near", x.wide(1, 1, 99), 2);
    }

    /** ".. to 999)"; "WIDE; NONE." */
    private static void wideNone() {
        DrumSlits x = new DrumSlits();
        check.same("with 997.5", x.wide(21, 93, 2), 998);
        check.same("with 999", x.wide(27, 36, 1), 999);
        check.same("with 999 of others", x.wide(27, 72, 2), 999);
        check.same("with 999.75", x.wide(93, 39, 4), -1);
        check.same("with 1000", x.wide(10, 99, 1), -1);
        check.same("with 9900", x.wide(99, 99, 1), -1);
    }

    // ---- promise 24

    /** "LIGHT (0 to 99) times that". */
    private static void slitLight() {
        DrumSlits x = new DrumSlits();
        check.same("LIGHT -1", x.slit(-1, 1), -2);
        check.same("LIGHT 0", x.slit(0, 1), 1);
        check.same("LIGHT 99", x.slit(99, 3), 16);
        check.same("LIGHT 100", x.slit(100, 3), -2);
        check.same("LIGHT, the least", x.slit(LEAST, 1), -2);
        check.same("LIGHT, the most", x.slit(MOST, 1), -2);
    }

    /** "less BLUR (0 to 99) times that times itself". */
    private static void slitBlur() {
        DrumSlits x = new DrumSlits();
        check.same("BLUR -1", x.slit(99, -1), -2);
        check.same("BLUR 0", x.slit(99, 0), 20);
        check.same("BLUR 99", x.slit(99, 99), 1);
        check.same("BLUR 100", x.slit(99, 100), -2);
        check.same("BLUR, the least", x.slit(1, LEAST), -2);
        check.same("BLUR, the most", x.slit(1, MOST), -2);
    }

    /** "BEST SLIT: 1 to 20 wide". */
    private static void slitOneToTwenty() {
        DrumSlits x = new DrumSlits();
        check.same("0 would be best", x.slit(0, 99), 1);
        check.same("1 is", x.slit(2, 1), 1);
        check.same("2 is", x.slit(4, 1), 2);
        check.same("19 is", x.slit(38, 1), 19);
        check.same("20 is", x.slit(40, 1), 20);
        check.same("21 would be", x.slit(42, 1), 20);
        check.same("49 would be", x.slit(99, 1), 20);
        check.same("LIGHT alone", x.slit(1, 0), 20);
    }

    /** "most; of like ones the least". */
    private static void slitLikeOnes() {
        DrumSlits x = new DrumSlits();
        check.same("1 and 2 alike", x.slit(3, 1), 1);
        check.same("2 is more", x.slit(4, 1), 2);
        check.same("2 and 3 alike", x.slit(5, 1), 2);
        check.same("19 and 20 alike", x.slit(39, 1), 19);
        check.same("20 is more", x.slit(40, 1), 20);
        check.same("20 and 21 alike", x.slit(41, 1), 20);
        check.same("all alike", x.slit(0, 0), 1);
        check.same("16 and 17 alike", x.slit(99, 3), 16);
    }
}
