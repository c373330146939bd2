/** Boundary cases of Terms 3 and of promises 13 to 15: a test for each sentence. */
public final class BoundsWheelsTest {
    private static final Check check = new Check("BoundsWheelsTest");
    private static final int NONE = -1;
    private static final int LEAST = Integer.MIN_VALUE;
    private static final int MOST = Integer.MAX_VALUE;

    public static void main(String[] args) {
        spokes();
        turns();
        flashes();
        nearest();
        nothing();
        lowestTerms();
        wheelWhat();
        fitsItself();
        fitsFromZeroTo999();
        fitsAtHalf();
        fitsByTwo();
        fitsBothLamps();
        fitsBeyond();
        upToBounds();
        upToAFit();
        upToByTwo();
        check.end();
    }

    private static void wheel(int spokes, int turns, int flashes, int above, int below) {
        DrumSlits x = new DrumSlits();
        String call = "wheel(" + spokes + ", " + turns + ", " + flashes + ", ";
        check.same(call + "0)", x.wheel(spokes, turns, flashes, 0), above);
        check.same(call + "1)", x.wheel(spokes, turns, flashes, 1), below);
    }

    private static void bad(int spokes, int turns, int flashes) {
        DrumSlits x = new DrumSlits();
        String call = "(" + spokes + ", " + turns + ", " + flashes + ", ..)";
        check.same("wheel" + call, x.wheel(spokes, turns, flashes, 0), Check.BAD_LONG);
        check.same("wheel, below" + call, x.wheel(spokes, turns, flashes, 1), Check.BAD_LONG);
        check.same("fits" + call, x.fits(spokes, turns, flashes, NONE, NONE), -2);
        check.same("fits by two" + call, x.fits(spokes, turns, flashes, 1, 0), -2);
        check.same("upTo" + call, x.upTo(spokes, turns, flashes, NONE, 999), -2);
        check.same("upTo by two" + call, x.upTo(spokes, turns, flashes, 1, 999), -2);
    }

    /** These numbers are as told to fits() and upTo(), too. */
    private static void good(int spokes, int turns, int flashes) {
        DrumSlits x = new DrumSlits();
        String call = "(" + spokes + ", " + turns + ", " + flashes + ", ..)";
        check.same("fits" + call, x.fits(spokes, turns, flashes, NONE, NONE) > 0 ? 1 : 0, 1);
        check.same("upTo" + call, x.upTo(spokes, turns, flashes, NONE, 999) > 0 ? 1 : 0, 1);
    }

    // ---- Terms 3

    /** "A WHEEL of SPOKES (1 to 36)". */
    private static void spokes() {
        bad(-1, 1, 1);
        bad(0, 1, 1);
        wheel(1, 1, 1, 1, 60);
        good(1, 1, 1);
        wheel(36, 1, 1, -2, 5);
        good(36, 1, 1);
        bad(37, 1, 1);
        bad(LEAST, 1, 1);
        bad(MOST, 1, 1);
    }

    /** "turns TURNS (0 to 999) a minute". */
    private static void turns() {
        bad(1, -1, 1);
        wheel(1, 0, 1, 0, 1);
        good(1, 0, 1);
        wheel(1, 999, 1, -7, 20);
        good(1, 999, 1);
        bad(1, 1000, 1);
        bad(1, LEAST, 1);
        bad(1, MOST, 1);
    }

    /** "a LAMP flickers FLASHES (1 to 99) a second". */
    private static void flashes() {
        bad(1, 1, -1);
        bad(1, 1, 0);
        wheel(1, 2, 1, 1, 30);
        good(1, 2, 1);
        wheel(1, 1, 99, 1, 5940);
        good(1, 1, 99);
        bad(1, 1, 100);
        bad(1, 1, LEAST);
        bad(1, 1, MOST);
        wheel(36, 999, 99, 3, 55);
    }

    /** "It SEEMS to go that less the whole number nearest to it (of two the lesser)". */
    private static void nearest() {
        wheel(1, 29, 1, 29, 60);
        wheel(1, 30, 1, 1, 2);
        wheel(1, 31, 1, -29, 60);
        wheel(1, 89, 1, 29, 60);
        wheel(1, 90, 1, 1, 2);
        wheel(1, 91, 1, -29, 60);
        wheel(2, 15, 1, 1, 2);
        wheel(2, 16, 1, -7, 15);
        wheel(36, 825, 99, 0, 1);
        wheel(12, 495, 99, 0, 1);
        wheel(6, 495, 99, 1, 2);
        wheel(6, 496, 99, -247, 495);
    }

    /** "FRACTIONS .. (0 by 1)". */
    private static void nothing() {
        wheel(1, 59, 1, -1, 60);
        wheel(1, 60, 1, 0, 1);
        wheel(1, 61, 1, 1, 60);
        wheel(36, 0, 99, 0, 1);
    }

    /** "a FRACTION (of a SPOKE)", in lowest terms. */
    private static void lowestTerms() {
        wheel(1, 20, 1, 1, 3);
        wheel(1, 40, 1, -1, 3);
        wheel(2, 10, 1, 1, 3);
        wheel(1, 19, 1, 19, 60);
        wheel(7, 100, 10, 1, 6);
    }

    // ---- promise 13

    /** "SEEMS: above, below. BAD. (A refusal -x is the least long and x more.)" */
    private static void wheelWhat() {
        DrumSlits x = new DrumSlits();
        check.same("wheel what -1", x.wheel(1, 58, 1, -1), Long.MIN_VALUE + 2);
        check.same("wheel what 0", x.wheel(1, 58, 1, 0), -1);
        check.same("wheel what 1", x.wheel(1, 58, 1, 1), 30);
        check.same("wheel what 2", x.wheel(1, 58, 1, 2), Long.MIN_VALUE + 2);
        check.same("wheel what, the least", x.wheel(1, 58, 1, LEAST), Long.MIN_VALUE + 2);
        check.same("wheel what, the most", x.wheel(1, 58, 1, MOST), Long.MIN_VALUE + 2);
    }

    // ---- promise 14

    /** "FITS: those TURNS with which it SEEMS just as with told TURNS": these are among them. */
    private static void fitsItself() {
        DrumSlits x = new DrumSlits();
        check.same("one that fits alone", x.fits(1, 59, 99, NONE, NONE), 1);
        check.same("it is the told one", x.fits(1, 59, 99, NONE, 0), 59);
        check.same("and no other", x.fits(1, 59, 99, NONE, 1), -1);
        check.same("0 fits 0", x.fits(1, 0, 99, NONE, 0), 0);
        check.same("999 fits 999", x.fits(1, 999, 99, NONE, 0), 999);
    }

    /** "TURNS (0 to 999)": both ends are among FITS, nothing outside them is. */
    private static void fitsFromZeroTo999() {
        DrumSlits x = new DrumSlits();
        check.same("60 as 0: how many", x.fits(1, 60, 1, NONE, NONE), 17);
        check.same("60 as 0: the first", x.fits(1, 60, 1, NONE, 0), 0);
        check.same("60 as 0: the last", x.fits(1, 60, 1, NONE, 16), 960);
        check.same("60 as 0: 1020 is none", x.fits(1, 60, 1, NONE, 17), -1);
        check.same("39 as 999: how many", x.fits(1, 39, 1, NONE, NONE), 17);
        check.same("39 as 999: the last", x.fits(1, 39, 1, NONE, 16), 999);
        check.same("39 as 999: 1059 is none", x.fits(1, 39, 1, NONE, 17), -1);
        check.same("40: 1000 is none", x.fits(1, 40, 1, NONE, NONE), 16);
        check.same("40: the last", x.fits(1, 40, 1, NONE, 15), 940);
        check.same("every fifth", x.fits(36, 0, 1, NONE, NONE), 200);
        check.same("every fifth: the last", x.fits(36, 0, 1, NONE, 199), 995);
        check.same("every fifth: beyond", x.fits(36, 0, 1, NONE, 200), -1);
    }

    /** "just as": a half on is not a half back, and half a SPOKE fits half a SPOKE. */
    private static void fitsAtHalf() {
        DrumSlits x = new DrumSlits();
        check.same("30: how many", x.fits(1, 30, 1, NONE, NONE), 17);
        check.same("30: the second", x.fits(1, 30, 1, NONE, 1), 90);
        check.same("29: the second is not 31", x.fits(1, 29, 1, NONE, 1), 89);
        check.same("31: the first is not 29", x.fits(1, 31, 1, NONE, 0), 31);
    }

    /** "or by two (the second NONE: one alone)". */
    private static void fitsByTwo() {
        DrumSlits x = new DrumSlits();
        check.same("second -2", x.fits(1, 0, 1, -2, NONE), -2);
        check.same("second NONE", x.fits(1, 0, 1, NONE, NONE), 17);
        check.same("second 0", x.fits(1, 0, 1, 0, NONE), -2);
        check.same("second 1, the same", x.fits(1, 0, 1, 1, NONE), 17);
        check.same("second 2", x.fits(1, 0, 1, 2, NONE), 9);
        check.same("second 99", x.fits(1, 0, 1, 99, NONE), 1);
        check.same("second 100", x.fits(1, 0, 1, 100, NONE), -2);
        check.same("second, the least", x.fits(1, 0, 1, LEAST, NONE), -2);
        check.same("second, the most", x.fits(1, 0, 1, MOST, NONE), -2);
    }

    /** "by one LAMP, or by both of two". */
    private static void fitsBothLamps() {
        DrumSlits x = new DrumSlits();
        check.same("by 2: how many", x.fits(1, 30, 2, NONE, NONE), 9);
        check.same("by 3: how many", x.fits(1, 30, 3, NONE, NONE), 6);
        check.same("by 2 and 3: how many", x.fits(1, 30, 2, 3, NONE), 3);
        check.same("by 3 and 2: how many", x.fits(1, 30, 3, 2, NONE), 3);
        check.same("by 2 the second", x.fits(1, 30, 2, NONE, 1), 150);
        check.same("by 3 the second", x.fits(1, 30, 3, NONE, 1), 210);
        check.same("by both the second", x.fits(1, 30, 2, 3, 1), 390);
        check.same("by both the third", x.fits(1, 30, 2, 3, 2), 750);
        check.same("by both beyond", x.fits(1, 30, 2, 3, 3), -1);
    }

    /** "how many (i = NONE), the i-th; NONE beyond. BAD." */
    private static void fitsBeyond() {
        DrumSlits x = new DrumSlits();
        check.same("i -2", x.fits(1, 30, 1, NONE, -2), -2);
        check.same("i NONE", x.fits(1, 30, 1, NONE, NONE), 17);
        check.same("i 0, the least", x.fits(1, 30, 1, NONE, 0), 30);
        check.same("i 16, the last", x.fits(1, 30, 1, NONE, 16), 990);
        check.same("i 17, beyond", x.fits(1, 30, 1, NONE, 17), -1);
        check.same("i, the most", x.fits(1, 30, 1, NONE, MOST), -1);
        check.same("i, the least int", x.fits(1, 30, 1, NONE, LEAST), -2);
    }

    // ---- promise 15

    /** "FITS that are no more than a told number (0 to 999): how many. BAD." */
    private static void upToBounds() {
        DrumSlits x = new DrumSlits();
        check.same("up to -1", x.upTo(1, 0, 1, NONE, -1), -2);
        check.same("up to 0", x.upTo(1, 0, 1, NONE, 0), 1);
        check.same("up to 999", x.upTo(1, 999, 1, NONE, 999), 17);
        check.same("up to 1000", x.upTo(1, 999, 1, NONE, 1000), -2);
        check.same("up to the least", x.upTo(1, 0, 1, NONE, LEAST), -2);
        check.same("up to the most", x.upTo(1, 0, 1, NONE, MOST), -2);
    }

    /** "no more than a told number": one that is just as many is among them. */
    private static void upToAFit() {
        DrumSlits x = new DrumSlits();
        check.same("1 up to 0", x.upTo(1, 1, 1, NONE, 0), 0);
        check.same("1 up to 1", x.upTo(1, 1, 1, NONE, 1), 1);
        check.same("61 up to 60", x.upTo(1, 1, 1, NONE, 60), 1);
        check.same("61 up to 61", x.upTo(1, 1, 1, NONE, 61), 2);
        check.same("999 up to 998", x.upTo(1, 39, 1, NONE, 998), 16);
        check.same("999 up to 999", x.upTo(1, 39, 1, NONE, 999), 17);
        check.same("the told one may be above", x.upTo(1, 999, 1, NONE, 39), 1);
    }

    /** "(the second NONE: one alone)", for upTo(). */
    private static void upToByTwo() {
        DrumSlits x = new DrumSlits();
        check.same("second -2", x.upTo(1, 0, 1, -2, 999), -2);
        check.same("second NONE", x.upTo(1, 0, 1, NONE, 999), 17);
        check.same("second 0", x.upTo(1, 0, 1, 0, 999), -2);
        check.same("second 1", x.upTo(1, 0, 1, 1, 999), 17);
        check.same("second 2, up to 119", x.upTo(1, 0, 1, 2, 119), 1);
        check.same("second 2, up to 120", x.upTo(1, 0, 1, 2, 120), 2);
        check.same("second 99", x.upTo(1, 0, 1, 99, 999), 1);
        check.same("second 100", x.upTo(1, 0, 1, 100, 999), -2);
    }
}
