import java.math.BigInteger;

/** Boundary cases of promises 40 and 41: a test for each sentence. */
public final class BoundsCountsTest {
    private static final Check check = new Check("BoundsCountsTest");
    private static final String TWELVE = "1111;1112;1113;1114;1115;1116;1117;1118;1119;1120;1121;1122";
    private static final int LEAST = Integer.MIN_VALUE;
    private static final int MOST = Integer.MAX_VALUE;

    public static void main(String[] args) {
        countWhat();
        countPictures();
        countBytes();
        countDots();
        countTries();
        countGap();
        countFinding();
        digestWraps();
        digestOfNew();
        digestOfRefusals();
        digestOfMost();
        digestOfDots();
        digestOfTries();
        digestLeavesOut();
        check.end();
    }

    // ---- promise 40

    /** "BAD": no such thing to count. */
    private static void countWhat() {
        DrumSlits x = new DrumSlits();
        check.same("count(-1)", x.count(-1), -2);
        for (int what = 0; what <= 8; what++) {
            check.same("count(" + what + ")", x.count(what), what == 7 ? 3 : 0);
        }
        check.same("count(9)", x.count(9), -2);
        check.same("count of the least", x.count(LEAST), -2);
        check.same("count of the most", x.count(MOST), -2);
    }

    /** "0, 1 PICTURES of STRIPS". */
    private static void countPictures() {
        DrumSlits x = Check.strips("1111", TWELVE);
        check.same("one", x.count(0), 1);
        check.same("twelve", x.count(1), 12);
        x.type(0, ';');
        x.type(1, ';');
        check.same("one and a FAULT", x.count(0), 0);
        check.same("twelve and a FAULT", x.count(1), 0);
        Check.retype(x, 1, "1111;2222");
        check.same("two", x.count(1), 2);
        x.wipe(1);
        check.same("none", x.count(1), 0);
    }

    /** "2, 3 bytes of them". */
    private static void countBytes() {
        DrumSlits x = Check.strips("1111", TWELVE + ";1111;1111;1111;1111;");
        check.same("four", x.count(2), 4);
        check.same("eighty", x.count(3), 80);
        x.type(1, '1');
        check.same("an 81st is refused", x.count(3), 80);
        x.type(0, 256);
        check.same("byte 256 is refused", x.count(2), 4);
        x.type(0, 255);
        check.same("five", x.count(2), 5);
        x.wipe(0);
        check.same("none", x.count(2), 0);
    }

    /** "4, 5 DOTS of LOOKS". */
    private static void countDots() {
        DrumSlits x = new DrumSlits();
        for (int i = 0; i < 7; i++) {
            x.dot(1, i, 0);
        }
        x.dot(0, 60, 0);
        check.same("none of LOOK 0", x.count(4), 0);
        check.same("six of LOOK 1", x.count(5), 6);
        x.dot(0, 59, 0);
        x.blink(1);
        check.same("one of LOOK 0", x.count(4), 1);
        check.same("none of LOOK 1", x.count(5), 0);
    }

    /** "6 TRIES". */
    private static void countTries() {
        DrumSlits x = new DrumSlits();
        x.tries(61, 0, 0);
        check.same("none", x.count(6), 0);
        for (int i = 1; i <= 39; i++) {
            x.tries(60, 0, 0);
        }
        check.same("39", x.count(6), 39);
        x.tries(60, 0, 0);
        check.same("40", x.count(6), 40);
        x.tries(60, 0, 0);
        check.same("a 41st is refused", x.count(6), 40);
    }

    /** "7 GAP". */
    private static void countGap() {
        DrumSlits x = new DrumSlits();
        check.same("at first", x.count(7), 3);
        x.set(0, 9);
        check.same("9", x.count(7), 9);
        x.set(0, 10);
        check.same("10 is refused", x.count(7), 9);
        x.set(1, 0);
        check.same("UNLIKE is another", x.count(7), 9);
        x.set(0, 0);
        check.same("0", x.count(7), 0);
    }

    /** "8 the number of the latest FINDING (0 before any)". */
    private static void countFinding() {
        DrumSlits x = new DrumSlits();
        check.same("before any", x.count(8), 0);
        x.type(2, 0);
        x.seen(0, 1, 0);
        for (int i = 0; i < 7; i++) {
            x.dot(0, 0, 0);
        }
        check.same("BAD, NOT and FULL are none", x.count(8), 0);
        x.lose(0);
        check.same("NULL", x.count(8), 1);
        x.sheet(0, 0, -1);
        check.same("SIZE, the latest", x.count(8), 5);
        x.lose(0);
        check.same("NULL, the latest", x.count(8), 1);
        x.sheet(0, 0, 1);
        x.put(0, 0, 0, 1);
        x.count(9);
        check.same("what finds nothing leaves it", x.count(8), 1);
    }

    // ---- promise 41

    /** All that the digest is made of, in its order, each told by its own call; the rest modulo 2 to the 64th. */
    private static long told(DrumSlits x) {
        BigInteger h = BigInteger.valueOf(17);
        for (int what = 0; what <= 7; what++) {
            h = more(h, x.count(what));
        }
        for (int strip = 0; strip <= 1; strip++) {
            int[] all = {x.fault(strip), x.whole(strip), x.seen(strip, 12, -1), x.missing(strip, 0),
                x.missing(strip, 1), x.few(strip, 5), x.orders(strip)};
            for (int v : all) {
                h = more(h, v);
            }
            for (int i = 0; i < 4 * x.count(strip); i++) {
                h = more(h, x.place(strip, i / 4, i % 4));
            }
        }
        h = more(more(more(more(h, x.join(0)), x.join(1)), x.join(2)), x.net());
        for (int look = 0; look <= 1; look++) {
            for (int dot = 0; dot < x.count(4 + look); dot++) {
                h = more(h, x.joined(look, dot));
            }
        }
        h = more(h, x.numbers(1, 2, -1));
        return more(more(more(h, x.line(0)), x.line(1)), x.line(2)).longValue();
    }

    private static BigInteger more(BigInteger h, long v) {
        return h.multiply(BigInteger.valueOf(31)).add(BigInteger.valueOf(v));
    }

    private static void alike(String name, DrumSlits x) {
        check.same(name, x.digest(), told(x));
    }

    /** "as longs that wrap". */
    private static void digestWraps() {
        BigInteger h = BigInteger.valueOf(17);
        int[] told = {0, 0, 0, 0, 0, 0, 0, 3, -1, 0, -3, -3, -3, -3, -3, -1, 0, -3, -3, -3, -3, -3,
            0, 1, 0, 0, 92, -3, -3, -3};
        for (int v : told) {
            h = more(h, v);
        }
        check.same("it is beyond a long", h.bitLength() > 64 ? 1 : 0, 1);
        check.same("wrapped", new DrumSlits().digest(), h.longValue());
    }

    /** "h is 17": of a new object nothing but the numbers of nothing. */
    private static void digestOfNew() {
        DrumSlits x = new DrumSlits();
        long first = x.digest();
        check.same("again", x.digest(), first);
        check.same("another new one", new DrumSlits().digest(), first);
        x.type(0, '1');
        check.same("no longer new", x.digest() == first ? 1 : 0, 0);
        x.wipe(0);
        check.same("as new", x.digest(), first);
    }

    /** "orders() (as they are told)": NOT of none, FULL of nine, of eight how many. */
    private static void digestOfRefusals() {
        DrumSlits x = Check.strips(TWELVE.substring(0, 39), TWELVE.substring(0, 44));
        check.same("eight", x.orders(0) > 0 ? 1 : 0, 1);
        check.same("nine", x.orders(1), -4);
        alike("eight and nine", x);
        Check.retype(x, 0, "");
        Check.retype(x, 1, "1111;");
        alike("none and a FAULT", x);
        Check.retype(x, 0, "1111");
        alike("one", x);
    }

    /** "of each PICTURE place() 0 to 3": of twelve, of what is not seen. */
    private static void digestOfMost() {
        alike("twelve", Check.strips(TWELVE, TWELVE));
        alike("not seen", Check.strips("----", "0-9-;-0-9"));
        // seen(12, NONE) and few(5): neighbours of 12 SLITS and of t 5 would tell otherwise.
        alike("six PICTURES", Check.strips("0000;9000;9900;9990;9999;0999", ""));
        alike("a STEP of 5", Check.strips("0000;5000", "0000;6000"));
    }

    /** "of LOOKS joined() of each DOT". */
    private static void digestOfDots() {
        DrumSlits x = new DrumSlits();
        x.dot(0, 10, 0);
        alike("one to none", x);
        for (int i = 0; i < 6; i++) {
            x.dot(1, 9 * i, i % 4);
        }
        alike("one to six", x);
        for (int i = 0; i < 5; i++) {
            x.dot(0, 11 * i, i % 3);
        }
        alike("six to six", x);
        x.blink(1);
        alike("six to none", x);
    }

    /** "line() 0 to 2 (as it is told)": NOT of no TRIES. */
    private static void digestOfTries() {
        DrumSlits x = new DrumSlits();
        alike("none", x);
        x.tries(21, 0, 1);
        x.tries(20, 0, 0);
        alike("two", x);
        for (int i = 0; i < 38; i++) {
            x.tries(1 + i, i % 10, i % 2);
        }
        alike("forty", x);
    }

    /** "count() 0 to 7": the latest FINDING and SHEETS are not in it, UNLIKE by join() alone. */
    private static void digestLeavesOut() {
        DrumSlits x = new DrumSlits();
        x.dot(0, 5, 0);
        x.dot(1, 5, 0);
        long before = x.digest();
        x.lose(0);
        check.same("a FINDING", x.digest(), before);
        check.same("it stays", x.count(8), 1);
        Check.row(x, 1, 0, 7);
        check.same("a SHEET", x.digest(), before);
        x.set(1, 60);
        check.same("UNLIKE of like ones", x.digest(), before);
        x.set(0, 4);
        check.same("GAP is in it", x.digest() == before ? 1 : 0, 0);
        x.set(0, 3);
        check.same("GAP as it was", x.digest(), before);
    }
}
