/** Promises 9 to 12: ADVANCE, DRIFT, SEEMING, SEEN, ROUND, NUMBERS. */
public final class DrumsTest {
    private static final Check check = new Check("DrumsTest");

    public static void main(String[] args) {
        drums();
        wrongDrums();
        every();
        seen();
        numbers();
        check.end();
    }

    private static void drum(int slits, int pictures, int advance, int seeming, int above, int below) {
        DrumSlits x = new DrumSlits();
        String call = "(" + slits + ", " + pictures + ", ";
        check.same("drum" + call + "0)", x.drum(slits, pictures, 0), advance);
        check.same("drum" + call + "1)", x.drum(slits, pictures, 1), seeming);
        check.same("drift" + call + "0)", x.drift(slits, pictures, 0), above);
        check.same("drift" + call + "1)", x.drift(slits, pictures, 1), below);
    }

    private static void drums() {
        drum(1, 1, 1, 0, 0, 1);
        drum(1, 24, 24, 0, 0, 1);
        drum(24, 1, 0, 2, 1, 24);
        drum(24, 24, 1, 1, 0, 1);
        drum(12, 24, 2, 1, 0, 1);
        drum(12, 14, 1, 2, 1, 6);
        drum(12, 10, 1, 3, -1, 6);
        drum(2, 1, 0, 2, 1, 2);
        drum(2, 3, 1, 2, 1, 2);
        drum(2, 5, 2, 2, 1, 2);
        drum(3, 2, 1, 3, -1, 3);
        drum(10, 4, 0, 2, 2, 5);
        drum(10, 6, 1, 3, -2, 5);
    }

    private static void wrongDrums() {
        DrumSlits x = new DrumSlits();
        int[][] bad = {{0, 1, 0}, {25, 1, 0}, {1, 0, 0}, {1, 25, 0}, {-1, 1, 0}, {1, -1, 0}, {1, 1, -1}, {1, 1, 2}};
        for (int[] b : bad) {
            String call = "(" + b[0] + ", " + b[1] + ", " + b[2] + ")";
            check.same("drum" + call, x.drum(b[0], b[1], b[2]), -2);
            check.same("drift" + call, x.drift(b[0], b[1], b[2]), Check.BAD_LONG);
        }
    }

    /** ADVANCE and DRIFT by their words alone: the nearest whole number, of two the lesser. */
    private static void every() {
        for (int slits = 1; slits <= 24; slits++) {
            DrumSlits x = new DrumSlits();
            for (int pictures = 1; pictures <= 24; pictures++) {
                int nearest = 0;
                for (int whole = 1; whole <= 24; whole++) {
                    if (Math.abs(pictures - whole * slits) < Math.abs(pictures - nearest * slits)) {
                        nearest = whole;
                    }
                }
                String call = "(" + slits + ", " + pictures + ")";
                check.same("ADVANCE" + call, x.drum(slits, pictures, 0), nearest);
                long above = x.drift(slits, pictures, 0);
                long below = x.drift(slits, pictures, 1);
                check.same("DRIFT" + call, above * slits, (pictures - nearest * slits) * below);
                for (int d = 2; d <= 24; d++) {
                    check.same("lowest terms" + call, above % d == 0 && below % d == 0 ? 1 : 0, 0);
                }
                int seeming = above > 0 ? 2 : above < 0 ? 3 : nearest % pictures == 0 ? 0 : 1;
                check.same("SEEMING" + call, x.drum(slits, pictures, 1), seeming);
            }
        }
    }

    private static void seen() {
        DrumSlits x = Check.strips("0000;1111;2222;3333;4444;5555", "");
        check.same("advance 1, look 0", x.seen(0, 6, 0), 0);
        check.same("advance 1, look 5", x.seen(0, 6, 5), 5);
        check.same("advance 1, look 6", x.seen(0, 6, 6), 0);
        check.same("advance 1, round", x.seen(0, 6, -1), 6);
        check.same("advance 2, look 2", x.seen(0, 3, 2), 4);
        check.same("advance 2, look 999", x.seen(0, 3, 999), 0);
        check.same("advance 2, round", x.seen(0, 3, -1), 3);
        check.same("advance 6, look 1", x.seen(0, 1, 1), 0);
        check.same("advance 6, round", x.seen(0, 1, -1), 1);
        check.same("advance 0, look 999", x.seen(0, 12, 999), 0);
        check.same("advance 0, round", x.seen(0, 24, -1), 1);
        check.same("half is the lesser: advance 1", x.seen(0, 4, 1), 1);
        Check.retype(x, 0, "0000;1111;2222;3333;4444;5555;6666;7777;8888;9999");
        check.same("ten, advance 4 (of 10 by 2: 5; by 3: 3)", x.seen(0, 3, 999), 3 * 999 % 10);
        check.same("ten, round by 3", x.seen(0, 3, -1), 10);
        check.same("ten, round by 5", x.seen(0, 2, -1), 2);
        check.same("strip -1", x.seen(-1, 1, 0), -2);
        check.same("strip 2", x.seen(2, 1, 0), -2);
        check.same("slits 0", x.seen(0, 0, 0), -2);
        check.same("slits 25", x.seen(0, 25, 0), -2);
        check.same("look -2", x.seen(0, 1, -2), -2);
        check.same("look 1000", x.seen(0, 1, 1000), -2);
        check.same("empty", x.seen(1, 1, 0), -3);
        check.same("empty, round", x.seen(1, 1, -1), -3);
        check.same("empty, BAD first", x.seen(1, 25, 0), -2);
        Check.retype(x, 1, "0000;");
        check.same("with a FAULT", x.seen(1, 1, 0), -3);
        Check.retype(x, 1, "0000");
        check.same("one alone", x.seen(1, 1, 999), 0);
        check.same("one alone, round", x.seen(1, 24, -1), 1);
    }

    private static void numbers() {
        DrumSlits x = new DrumSlits();
        int all = 0;
        for (int advance = 0; advance <= 24; advance++) {
            for (int seeming = 0; seeming <= 3; seeming++) {
                int found = 0;
                String call = "numbers(" + advance + ", " + seeming + ", ";
                for (int slits = 1; slits <= 24; slits++) {
                    x = new DrumSlits();
                    for (int pictures = 1; pictures <= 24; pictures++) {
                        if (x.drum(slits, pictures, 0) == advance && x.drum(slits, pictures, 1) == seeming) {
                            check.same(call + found + ")", x.numbers(advance, seeming, found), 100 * slits + pictures);
                            found++;
                        }
                    }
                }
                check.same(call + "NONE)", x.numbers(advance, seeming, -1), found);
                check.same(call + found + "), beyond", x.numbers(advance, seeming, found), -1);
                all += found;
            }
        }
        check.same("all pairs", all, 576);
        check.same("far beyond", x.numbers(1, 2, Integer.MAX_VALUE), -1);
        check.same("i -2", x.numbers(1, 2, -2), -2);
        check.same("advance -1", x.numbers(-1, 2, 0), -2);
        check.same("advance 25", x.numbers(25, 2, 0), -2);
        check.same("seeming -1", x.numbers(1, -1, 0), -2);
        check.same("seeming 4", x.numbers(1, 4, 0), -2);
    }
}
