/** Promises 34 to 40: SHEETS, FINDINGS, write, count. */
public final class SheetsTest {
    private static final Check check = new Check("SheetsTest");
    private static final int LEAST = Integer.MIN_VALUE;

    public static void main(String[] args) {
        making();
        losing();
        putting();
        forms();
        getting();
        copying();
        wrongCopies();
        writing();
        counting();
        check.end();
    }

    /** An answer and the FINDING that count() 8 tells behind it. */
    private static void found(String call, DrumSlits x, long got, long due, int finding) {
        check.same(call, got, due);
        check.same(call + ": count(8)", x.count(8), finding);
    }

    private static void making() {
        DrumSlits x = new DrumSlits();
        found("sheet -1", x, x.sheet(-1, 0, 1), -2, 0);
        found("sheet 4", x, x.sheet(4, 0, 1), -2, 0);
        found("form -1", x, x.sheet(0, -1, 1), -2, 0);
        found("form 3", x, x.sheet(0, 3, 1), -2, 0);
        found("61 items", x, x.sheet(0, 0, 61), -2, 0);
        found("form 3 ahead of SIZE", x, x.sheet(0, 3, -1), -2, 0);
        found("it is still LOST", x, x.lose(0), Check.NULL, 1);
        found("SIZE", x, x.sheet(0, 0, -1), Check.SIZE, 5);
        found("SIZE makes none", x, x.lose(0), Check.NULL, 1);
        found("60 items", x, x.sheet(0, 2, 60), 60, 1);
        for (int i = 0; i < 60; i++) {
            check.same("0 at first", x.get(0, 2, i), 0);
            x.put(0, 2, i, i + 1);
        }
        found("SIZE of one that is", x, x.sheet(0, 1, LEAST), Check.SIZE, 5);
        check.same("SIZE leaves it", x.get(0, 2, 59), 60);
        check.same("a new row", x.sheet(0, 2, 3), 3);
        check.same("0 again", x.get(0, 2, 2), 0);
        check.same("three items", x.get(0, 2, 3), LEAST);
        check.same("longer again", x.sheet(0, 2, 60), 60);
        check.same("0 again, behind", x.get(0, 2, 59), 0);
        check.same("no items", x.sheet(3, 0, 0), 0);
        check.same("no items, not LOST", x.lose(3), 0);
    }

    private static void losing() {
        DrumSlits x = new DrumSlits();
        found("lose(-1)", x, x.lose(-1), -2, 0);
        found("lose(4)", x, x.lose(4), -2, 0);
        found("LOST", x, x.lose(1), Check.NULL, 1);
        x.sheet(1, 1, 7);
        x.sheet(2, 1, 8);
        check.same("seven", x.lose(1), 7);
        found("LOST again", x, x.lose(1), Check.NULL, 1);
        check.same("the other stays", x.lose(2), 8);
    }

    private static void putting() {
        DrumSlits x = new DrumSlits();
        x.sheet(0, 0, 2);
        found("put sheet -1", x, x.put(-1, 0, 0, 1), -2, 0);
        found("put sheet 4", x, x.put(4, 0, 0, 1), -2, 0);
        found("put form -1", x, x.put(0, -1, 0, 1), -2, 0);
        found("put form 3", x, x.put(0, 3, 0, 1), -2, 0);
        found("put form 3, LOST", x, x.put(1, 3, 0, 1), -2, 0);
        found("put NULL ahead of all", x, x.put(1, 1, -1, 1), Check.NULL, 1);
        found("put CAST ahead of INDEX", x, x.put(0, 1, 5, 1), Check.CAST, 3);
        found("put INDEX below", x, x.put(0, 0, -1, 1), Check.INDEX, 2);
        found("put CAST", x, x.put(0, 2, 0, 1), Check.CAST, 3);
        found("put INDEX behind", x, x.put(0, 0, 2, 1), Check.INDEX, 2);
        found("put", x, x.put(0, 0, 1, 9), 1, 2);
        check.same("it is there", x.get(0, 0, 1), 9);
        check.same("the other is as it was", x.get(0, 0, 0), 0);
        x.sheet(3, 0, 0);
        found("put where there are none", x, x.put(3, 0, 0, 1), Check.INDEX, 2);
    }

    private static void forms() {
        DrumSlits x = new DrumSlits();
        int[] values = {0, 1, -1, 127, 128, -128, -129, 255, 256, 32767, 32768, -32768, -32769, 65535, 65536,
            Integer.MAX_VALUE, LEAST, 0x12345678};
        for (int form = 0; form < 3; form++) {
            x.sheet(form, form, 1);
            for (int v : values) {
                check.same("put " + v, x.put(form, form, 0, v), 1);
                int due = form == 0 ? (byte) v : form == 1 ? (short) v : v;
                check.same("form " + form + " of " + v, x.get(form, form, 0), due);
            }
        }
    }

    private static void getting() {
        DrumSlits x = new DrumSlits();
        x.sheet(0, 2, 2);
        x.put(0, 2, 0, LEAST);
        found("get sheet -1", x, x.get(-1, 0, 0), LEAST, 0);
        found("get sheet 4", x, x.get(4, 0, 0), LEAST, 0);
        found("get form -1", x, x.get(0, -1, 0), LEAST, 0);
        found("get form 3", x, x.get(0, 3, 0), LEAST, 0);
        found("get the least int", x, x.get(0, 2, 0), LEAST, 0);
        found("get NULL", x, x.get(1, 2, 0), LEAST, 1);
        found("get BAD ahead of NULL", x, x.get(1, 3, 0), LEAST, 1);
        found("get CAST", x, x.get(0, 0, 5), LEAST, 3);
        found("get INDEX behind", x, x.get(0, 2, 2), LEAST, 2);
        found("get NULL again", x, x.get(1, 2, 0), LEAST, 1);
        found("get INDEX below", x, x.get(0, 2, -1), LEAST, 2);
        found("get", x, x.get(0, 2, 1), 0, 2);
    }

    private static void rowIs(DrumSlits x, String name, int s, int form, int... due) {
        for (int i = 0; i < due.length; i++) {
            check.same(name + " item " + i, x.get(s, form, i), due[i]);
        }
    }

    private static void copying() {
        DrumSlits x = new DrumSlits();
        Check.row(x, 0, 0, 1, 2, 3, 4, 5);
        Check.row(x, 1, 0, 9, 9, 9);
        check.same("copy", x.copy(0, 3, 1, 0, 2), 1);
        rowIs(x, "copied", 1, 0, 4, 5, 9);
        rowIs(x, "from", 0, 0, 1, 2, 3, 4, 5);
        check.same("copy on, in one", x.copy(0, 0, 0, 1, 4), 1);
        rowIs(x, "as they were, on", 0, 0, 1, 1, 2, 3, 4);
        check.same("copy back, in one", x.copy(0, 1, 0, 0, 4), 1);
        rowIs(x, "as they were, back", 0, 0, 1, 2, 3, 4, 4);
        check.same("none", x.copy(0, 0, 1, 0, 0), 1);
        check.same("none, at the ends", x.copy(0, 5, 1, 3, 0), 1);
        rowIs(x, "none copied", 1, 0, 4, 5, 9);
        check.same("all", x.copy(1, 0, 0, 2, 3), 1);
        rowIs(x, "all copied", 0, 0, 1, 2, 4, 5, 9);
        Check.row(x, 2, 2, 1000000);
        Check.row(x, 3, 2, 0, 0);
        check.same("ints", x.copy(2, 0, 3, 1, 1), 1);
        rowIs(x, "ints copied", 3, 2, 0, 1000000);
        check.same("no FINDING", x.count(8), 0);
    }

    private static void wrongCopies() {
        DrumSlits x = new DrumSlits();
        Check.row(x, 0, 0, 1, 2, 3);
        Check.row(x, 1, 0, 7, 8);
        x.sheet(2, 1, 3);
        found("copy from -1", x, x.copy(-1, 0, 1, 0, 1), -2, 0);
        found("copy from 4", x, x.copy(4, 0, 1, 0, 1), -2, 0);
        found("copy to -1", x, x.copy(0, 0, -1, 0, 1), -2, 0);
        found("copy to 4", x, x.copy(3, 0, 4, 0, 1), -2, 0);
        found("copy from LOST", x, x.copy(3, 9, 0, 0, 1), Check.NULL, 1);
        found("copy STORE ahead of INDEX", x, x.copy(0, 9, 2, 0, 1), Check.STORE, 4);
        found("copy to LOST", x, x.copy(0, 0, 3, 0, 1), Check.NULL, 1);
        found("copy STORE of none", x, x.copy(2, 0, 0, 0, 0), Check.STORE, 4);
        int big = Integer.MAX_VALUE;
        int[][] bad = {{-1, 0, 1}, {0, -1, 1}, {0, 0, -1}, {0, 0, 3}, {2, 0, 2}, {0, 1, 2}, {4, 0, 0}, {0, 3, 0},
            {big, 0, 1}, {0, big, 1}, {0, 0, big}, {big, big, big}, {1, 1, big}, {LEAST, 0, 1}, {0, LEAST, 1},
            {0, 0, LEAST}, {-1, 0, 0}, {0, -1, 0}, {big, 0, 0}};
        for (int[] b : bad) {
            x.lose(3);
            found("copy i " + b[0] + " j " + b[1] + " n " + b[2], x, x.copy(0, b[0], 1, b[1], b[2]), Check.INDEX, 2);
        }
        rowIs(x, "refused", 1, 0, 7, 8);
        found("copy LOST to LOST", x, x.copy(3, 0, 3, 0, 0), Check.NULL, 1);
    }

    private static void writing() {
        DrumSlits x = Check.strips("0000;1111;2222;3333;4444", "");
        found("write strip -1", x, x.write(-1, 1, 0), -2, 0);
        found("write strip 2", x, x.write(2, 1, 0), -2, 0);
        found("write slits 0", x, x.write(0, 0, 0), -2, 0);
        found("write slits 25", x, x.write(0, 25, 0), -2, 0);
        found("write sheet -1", x, x.write(0, 1, -1), -2, 0);
        found("write sheet 4", x, x.write(0, 1, 4), -2, 0);
        found("write NULL ahead of NOT", x, x.write(1, 1, 0), Check.NULL, 1);
        x.sheet(0, 0, 7);
        x.put(0, 0, 6, 99);
        found("write NOT", x, x.write(1, 1, 0), -3, 1);
        check.same("NOT writes nothing", x.get(0, 0, 6), 99);
        check.same("by 5 slits", x.write(0, 5, 0), 7);
        rowIs(x, "by 5 slits", 0, 0, 0, 1, 2, 3, 4, 0, 1);
        check.same("by 2 slits", x.write(0, 2, 0), 7);
        rowIs(x, "by 2 slits", 0, 0, 0, 2, 4, 1, 3, 0, 2);
        x.sheet(1, 2, 60);
        check.same("sixty", x.write(0, 3, 1), 60);
        for (int i = 0; i < 60; i++) {
            check.same("look " + i, x.get(1, 2, i), x.seen(0, 3, i));
        }
        x.sheet(2, 1, 0);
        check.same("no items", x.write(0, 3, 2), 0);
        x.type(0, '!');
        check.same("with a FAULT", x.write(0, 3, 2), -3);
    }

    private static void counting() {
        DrumSlits x = Check.strips("0000;1111;2222", "0000;1");
        x.dot(0, 1, 0);
        x.dot(1, 1, 0);
        x.dot(1, 2, 0);
        x.tries(1, 1, 1);
        x.tries(1, 1, 1);
        x.tries(1, 1, 1);
        x.set(0, 7);
        x.lose(0);
        int[] due = {3, 0, 14, 6, 1, 2, 3, 7, 1};
        for (int what = 0; what < due.length; what++) {
            check.same("count(" + what + ")", x.count(what), due[what]);
        }
        check.same("count(-1)", x.count(-1), -2);
        check.same("count(9)", x.count(9), -2);
        check.same("count(8) stays", x.count(8), 1);
    }
}
