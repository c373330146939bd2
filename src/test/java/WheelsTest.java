/** Promises 13 to 15: SEEMS, FITS, and FITS up to a number. */
public final class WheelsTest {
    private static final Check check = new Check("WheelsTest");

    public static void main(String[] args) {
        wheels();
        fits();
        wrongOnes();
        everyTurns(12, 119, 24, -1);
        everyTurns(12, 119, 24, 7);
        everyTurns(1, 0, 99, 1);
        everyTurns(36, 500, 1, 1);
        everyTurns(7, 333, 13, 26);
        everyTurns(35, 999, 11, 30);
        check.end();
    }

    private static void wheel(int spokes, int turns, int flashes, int above, int below) {
        DrumSlits x = new DrumSlits();
        String call = "wheel(" + spokes + ", " + turns + ", " + flashes + ", ";
        check.same(call + "0)", x.wheel(spokes, turns, flashes, 0), above);
        check.same(call + "1)", x.wheel(spokes, turns, flashes, 1), below);
    }

    private static void wheels() {
        wheel(1, 0, 1, 0, 1);
        wheel(1, 1, 1, 1, 60);
        wheel(1, 29, 1, 29, 60);
        wheel(1, 30, 1, 1, 2);
        wheel(1, 31, 1, -29, 60);
        wheel(1, 59, 1, -1, 60);
        wheel(1, 60, 1, 0, 1);
        wheel(1, 90, 1, 1, 2);
        wheel(4, 50, 10, 1, 3);
        wheel(36, 999, 99, 3, 55);
        wheel(36, 999, 1, 2, 5);
        wheel(1, 1, 99, 1, 5940);
        wheel(10, 45, 10, -1, 4);
    }

    private static void fits() {
        DrumSlits x = new DrumSlits();
        check.same("one a second: how many", x.fits(1, 30, 1, -1, -1), 17);
        check.same("one a second: first", x.fits(1, 30, 1, -1, 0), 30);
        check.same("one a second: last", x.fits(1, 30, 1, -1, 16), 990);
        check.same("one a second: beyond", x.fits(1, 30, 1, -1, 17), -1);
        check.same("far beyond", x.fits(1, 30, 1, -1, Integer.MAX_VALUE), -1);
        check.same("two lamps: how many", x.fits(1, 30, 2, 3, -1), 3);
        check.same("two lamps: second", x.fits(1, 30, 2, 3, 1), 390);
        check.same("two lamps: beyond", x.fits(1, 30, 2, 3, 3), -1);
        check.same("up to 0", x.upTo(1, 0, 1, -1, 0), 1);
        check.same("up to 29", x.upTo(1, 30, 1, -1, 29), 0);
        check.same("up to 30", x.upTo(1, 30, 1, -1, 30), 1);
        check.same("up to 89", x.upTo(1, 30, 1, -1, 89), 1);
        check.same("up to 90", x.upTo(1, 30, 1, -1, 90), 2);
        check.same("up to 999", x.upTo(1, 30, 1, -1, 999), 17);
        check.same("two lamps up to 390", x.upTo(1, 30, 2, 3, 390), 2);
        check.same("two lamps up to 389", x.upTo(1, 30, 2, 3, 389), 1);
    }

    private static void wrongOnes() {
        DrumSlits x = new DrumSlits();
        int[][] bad = {{0, 1, 1}, {37, 1, 1}, {1, -1, 1}, {1, 1000, 1}, {1, 1, 0}, {1, 1, 100}, {1, 1, -1}};
        for (int[] b : bad) {
            String call = "(" + b[0] + ", " + b[1] + ", " + b[2] + ", ..)";
            check.same("wheel" + call, x.wheel(b[0], b[1], b[2], 0), Check.BAD_LONG);
            check.same("fits" + call, x.fits(b[0], b[1], b[2], -1, -1), -2);
            check.same("upTo" + call, x.upTo(b[0], b[1], b[2], -1, 0), -2);
        }
        check.same("wheel what -1", x.wheel(1, 1, 1, -1), Check.BAD_LONG);
        check.same("wheel what 2", x.wheel(1, 1, 1, 2), Check.BAD_LONG);
        for (int second : new int[] {-2, 0, 100}) {
            check.same("fits second " + second, x.fits(1, 1, 1, second, 0), -2);
            check.same("upTo second " + second, x.upTo(1, 1, 1, second, 0), -2);
        }
        check.same("second 99", x.fits(1, 1, 1, 99, 0), 1);
        check.same("fits i -2", x.fits(1, 1, 1, -1, -2), -2);
        check.same("upTo -1", x.upTo(1, 1, 1, -1, -1), -2);
        check.same("upTo 1000", x.upTo(1, 1, 1, -1, 1000), -2);
    }

    /** FITS by their words alone: every TURNS that SEEM just as the told ones by each LAMP. */
    private static void everyTurns(int spokes, int turns, int flashes, int second) {
        DrumSlits x = new DrumSlits();
        String call = "(" + spokes + ", " + turns + ", " + flashes + ", " + second + ", ";
        int found = 0;
        for (int others = 0; others <= 999; others++) {
            x = others % 40 == 0 ? new DrumSlits() : x;
            if (alike(x, spokes, turns, others, flashes)
                && (second == -1 || alike(x, spokes, turns, others, second))) {
                check.same("fits" + call + found + ")", x.fits(spokes, turns, flashes, second, found), others);
                found++;
            }
            check.same("upTo" + call + others + ")", x.upTo(spokes, turns, flashes, second, others), found);
        }
        check.same("fits" + call + "NONE)", x.fits(spokes, turns, flashes, second, -1), found);
        check.same("fits" + call + found + ")", x.fits(spokes, turns, flashes, second, found), -1);
    }

    private static boolean alike(DrumSlits x, int spokes, int turns, int others, int flashes) {
        return x.wheel(spokes, turns, flashes, 0) == x.wheel(spokes, others, flashes, 0)
            && x.wheel(spokes, turns, flashes, 1) == x.wheel(spokes, others, flashes, 1);
    }
}
