/** Promises 22 to 24: NARROW, WIDE, BEST SLIT. */
public final class WidthsTest {
    private static final Check check = new Check("WidthsTest");

    public static void main(String[] args) {
        narrow();
        wide();
        slits();
        everyWidth();
        check.end();
    }

    private static void narrow(int w, int a, int b, int above, int below) {
        DrumSlits x = new DrumSlits();
        String call = "narrow(" + w + ", " + a + ", " + b + ", ";
        check.same(call + "0)", x.narrow(w, a, b, 0), above);
        check.same(call + "1)", x.narrow(w, a, b, 1), below);
    }

    private static void narrow() {
        narrow(1, 1, 1, 1, 2);
        narrow(10, 30, 20, 4, 1);
        narrow(99, 99, 99, 99, 2);
        narrow(99, 1, 99, 9801, 100);
        narrow(99, 99, 1, 99, 100);
        narrow(7, 3, 2, 14, 5);
        narrow(6, 2, 4, 4, 1);
        DrumSlits x = new DrumSlits();
        int[][] bad = {{0, 1, 1, 0}, {100, 1, 1, 0}, {1, 0, 1, 0}, {1, 100, 1, 0}, {1, 1, 0, 0}, {1, 1, 100, 0},
            {1, 1, 1, -1}, {1, 1, 1, 2}, {1, -1, 1, 0}, {1, 1, -1, 1}};
        for (int[] b : bad) {
            check.same("narrow of a wrong number", x.narrow(b[0], b[1], b[2], b[3]), Check.BAD_LONG);
        }
    }

    private static void wide() {
        DrumSlits x = new DrumSlits();
        check.same("0 wide", x.wide(0, 1, 1), 1);
        check.same("1 wide", x.wide(1, 1, 1), 2);
        check.same("just", x.wide(4, 30, 20), 10);
        check.same("one more", x.wide(4, 31, 20), 11);
        check.same("999", x.wide(27, 36, 1), 999);
        check.same("1000", x.wide(10, 99, 1), -1);
        check.same("990", x.wide(99, 9, 1), 990);
        check.same("1089", x.wide(99, 10, 1), -1);
        check.same("far", x.wide(99, 99, 1), -1);
        int[][] bad = {{-1, 1, 1}, {100, 1, 1}, {1, 0, 1}, {1, 100, 1}, {1, 1, 0}, {1, 1, 100}, {1, -1, 1}};
        for (int[] b : bad) {
            check.same("wide of a wrong number", x.wide(b[0], b[1], b[2]), -2);
        }
    }

    private static void slits() {
        DrumSlits x = new DrumSlits();
        check.same("nothing", x.slit(0, 0), 1);
        check.same("light alone", x.slit(1, 0), 20);
        check.same("blur alone", x.slit(0, 1), 1);
        check.same("10 by 1: 5", x.slit(10, 1), 5);
        check.same("11 by 1: 5 or 6", x.slit(11, 1), 5);
        check.same("12 by 1: 6", x.slit(12, 1), 6);
        check.same("40 by 1: 20", x.slit(40, 1), 20);
        check.same("39 by 1: 19 or 20", x.slit(39, 1), 19);
        check.same("99 by 1", x.slit(99, 1), 20);
        check.same("99 by 99", x.slit(99, 99), 1);
        int[][] bad = {{-1, 0}, {100, 0}, {0, -1}, {0, 100}};
        for (int[] b : bad) {
            check.same("slit of a wrong number", x.slit(b[0], b[1]), -2);
        }
    }

    /** By their words alone. */
    private static void everyWidth() {
        for (int p = 0; p <= 99; p++) {
            DrumSlits x = new DrumSlits();
            for (int q = 1; q <= 99; q++) {
                int best = 1;
                for (int w = 20; w >= 1; w--) {
                    if (p * w - q * w * w >= p * best - q * best * best) {
                        best = w;
                    }
                }
                check.same("slit(" + p + ", " + q + ")", x.slit(p, q), best);
                int a = 1 + (p * 7 + q) % 99;
                int drawn = -1;
                for (int w = 999; w >= 1; w--) {
                    if (w * q >= p * (a + q)) {
                        drawn = w;
                    }
                }
                check.same("wide(" + p + ", " + a + ", " + q + ")", x.wide(p, a, q), drawn);
            }
        }
    }
}
