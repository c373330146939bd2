/** Counts answers that are not as due, and ends a test with exit code 1 if there was one. */
final class Check {
    static final int NULL = -11, INDEX = -12, CAST = -13, STORE = -14, SIZE = -15;
    static final long BAD_LONG = Long.MIN_VALUE + 2;

    private final String name;
    private int answers;
    private int wrong;

    Check(String name) {
        this.name = name;
    }

    void same(String call, long got, long due) {
        answers++;
        if (got != due) {
            wrong++;
            System.out.println(name + ": " + call + " answered " + got + ", due is " + due);
        }
    }

    void end() {
        System.out.println(name + ": " + answers + " answers, " + wrong + " not as due");
        if (wrong != 0 || answers == 0) {
            System.exit(1);
        }
    }

    /** A new object with these texts on its STRIPS. */
    static DrumSlits strips(String first, String second) {
        DrumSlits x = new DrumSlits();
        retype(x, 0, first);
        retype(x, 1, second);
        return x;
    }

    static void retype(DrumSlits x, int strip, String text) {
        x.wipe(strip);
        for (int i = 0; i < text.length(); i++) {
            x.type(strip, text.charAt(i));
        }
    }

    static void row(DrumSlits x, int s, int form, int... items) {
        x.sheet(s, form, items.length);
        for (int i = 0; i < items.length; i++) {
            x.put(s, form, i, items[i]);
        }
    }
}
