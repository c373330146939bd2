/** Promises 25 to 29: ORDER, in how many rows, MISSING, HALF, FEW. */
public final class OrdersTest {
    private static final Check check = new Check("OrdersTest");
    private static final String EIGHT = "1110;1111;1112;1113;1114;1115;1116;1117";

    public static void main(String[] args) {
        orders();
        wrongOrders();
        missing();
        halves();
        few();
        check.end();
    }

    private static void ordered(String name, DrumSlits x, int sum, int rows, int... row) {
        check.same(name + ": WHOLE", x.order(0, -1), sum);
        check.same(name + ": how many", x.orders(0), rows);
        for (int i = 0; i < row.length; i++) {
            check.same(name + ": " + i, x.order(0, i), row[i]);
        }
        check.same(name + ": beyond", x.order(0, row.length), -2);
    }

    private static void orders() {
        ordered("one", Check.strips("1234", ""), 0, 1, 0);
        ordered("two", Check.strips("0000;1000", ""), 2, 1, 0, 1);
        ordered("three", Check.strips("0000;1000;2000", ""), 4, 2, 0, 1, 2);
        ordered("on and back", Check.strips("0000;3000;1000;2000", ""), 6, 4, 0, 1, 3, 2);
        ordered("a square", Check.strips("0000;1100;1000;0100", ""), 4, 2, 0, 2, 1, 3);
        ordered("all alike", Check.strips("1111;1111;1111;1111;1111", ""), 0, 24, 0, 1, 2, 3, 4);
        ordered("eight", Check.strips(EIGHT, ""), 14, 64, 0, 1, 2, 3, 4, 5, 6, 7);
        ordered("eight alike", Check.strips("7777;7777;7777;7777;7777;7777;7777;7777", ""), 0, 5040,
            0, 1, 2, 3, 4, 5, 6, 7);
        DrumSlits x = Check.strips("0000;0--0;0110", "");
        ordered("by GAP 3", x, 14, 2, 0, 1, 2);
        x.set(0, 0);
        ordered("by GAP 0", x, 2, 2, 0, 1, 2);
        x = Check.strips("0000;----;4000;-000", "");
        ordered("GAP 3 lays", x, 12 + 9 + 3 + 4, 4, 0, 1, 3, 2);
        check.same("the strip is as it was", x.place(0, 2, 0), 4);
        check.same("orders alone", Check.strips("", "0000;1000;2000").orders(1), 2);
        check.same("order alone", Check.strips("", "0000;3000;1000;2000").order(1, 3), 2);
    }

    private static void wrongOrders() {
        DrumSlits x = Check.strips("", EIGHT + ";1118");
        check.same("order(-1, ..)", x.order(-1, 0), -2);
        check.same("order(2, ..)", x.order(2, 0), -2);
        check.same("order i -2, first of all", x.order(0, -2), -2);
        check.same("order i -2 of nine", x.order(1, -2), -2);
        check.same("empty", x.order(0, -1), -3);
        check.same("empty, ahead of beyond", x.order(0, 99), -3);
        check.same("nine", x.order(1, 0), -4);
        check.same("nine, ahead of beyond", x.order(1, 9), -4);
        check.same("orders(-1)", x.orders(-1), -2);
        check.same("orders(2)", x.orders(2), -2);
        check.same("orders of an empty one", x.orders(0), -3);
        check.same("orders of nine", x.orders(1), -4);
        x.type(1, ';');
        check.same("nine with a FAULT", x.orders(1), -3);
        Check.retype(x, 1, EIGHT);
        check.same("eight, beyond", x.order(1, 8), -2);
        check.same("eight, far beyond", x.order(1, Integer.MAX_VALUE), -2);
        check.same("eight, last", x.order(1, 7), 7);
    }

    private static void lacks(String name, DrumSlits x, int behind, int less) {
        check.same(name + ": behind", x.missing(0, 0), behind);
        check.same(name + ": by how much", x.missing(0, 1), less);
    }

    private static void missing() {
        lacks("one", Check.strips("1234", ""), -1, 0);
        lacks("all alike", Check.strips("1111;1111;1111", ""), -1, 0);
        lacks("steps of one, cut", Check.strips("0000;1000", ""), -1, 0);
        lacks("two, there and back alike", Check.strips("0000;4000", ""), 0, 16 - 4 - 4);
        lacks("the greatest", Check.strips("0000;2000;6000;7000", ""), 3, 49 - 9 - 16);
        lacks("in the row", Check.strips("0000;1000;9000;5000", ""), 1, 64 - 16 - 16);
        lacks("of like ones the first", Check.strips("0000;4000;0000;4000", ""), 0, 8);
        DrumSlits x = Check.strips("00--;--00", "");
        lacks("two GAPS a side: HALF has all four", x, 0, 144 - 36 - 36);
        x.set(0, 0);
        lacks("GAP 0", x, -1, 0);
        Check.retype(x, 0, "1-00;3-00;9-00");
        lacks("not seen by all", x, 2, 64 - 16 - 16);
        x = Check.strips("0-00;9-00;-500", "");
        lacks("half by GAP", x, 0, 81 - 16 - 25);
        check.same("missing(-1, ..)", x.missing(-1, 0), -2);
        check.same("missing(2, ..)", x.missing(2, 0), -2);
        check.same("what -1", x.missing(0, -1), -2);
        check.same("what 2", x.missing(0, 2), -2);
        check.same("empty", x.missing(1, 0), -3);
        check.same("empty, 1", x.missing(1, 1), -3);
        check.same("empty, BAD first", x.missing(1, 2), -2);
        Check.retype(x, 1, "0;00");
        check.same("with a FAULT", x.missing(1, 0), -3);
        Check.retype(x, 1, "0000;1000;2000;3000;4000;5000;6000;7000;8000;9000;9500;9900");
        check.same("twelve are not too many", x.missing(1, 0), 11);
    }

    private static void halves() {
        DrumSlits x = Check.strips("0-95;39-4;1--9", "7-31");
        int[][] due = {{1, 9, 9, 4}, {2, 9, -1, 6}, {0, -1, 9, 7}};
        for (int picture = 0; picture < 3; picture++) {
            for (int part = 0; part < 4; part++) {
                check.same("half " + picture + ", " + part, x.half(0, picture, part), due[picture][part]);
            }
        }
        check.same("one alone", x.half(1, 0, 0), 7);
        check.same("one alone, not seen", x.half(1, 0, 1), -1);
        check.same("strip -1", x.half(-1, 0, 0), -2);
        check.same("strip 2", x.half(2, 0, 0), -2);
        check.same("picture -1", x.half(0, -1, 0), -2);
        check.same("picture 3", x.half(0, 3, 0), -2);
        check.same("part -1", x.half(0, 0, -1), -2);
        check.same("part 4", x.half(0, 0, 4), -2);
        x.wipe(1);
        check.same("empty", x.half(1, 0, 0), -2);
    }

    private static void few() {
        DrumSlits x = Check.strips("0000;1000;2000;3000;4000", "");
        check.same("t 0: each alone", x.few(0, 0), 31);
        check.same("t 1: two of five, the least", x.few(0, 1), 1 | 8);
        check.same("t 2: the middle", x.few(0, 2), 4);
        check.same("t 3: one beside it is less", x.few(0, 3), 2);
        check.same("t 4", x.few(0, 4), 1);
        check.same("t 60", x.few(0, 60), 1);
        Check.retype(x, 0, "1111;1111;2222;2222");
        check.same("like ones do for each other", x.few(0, 0), 1 | 4);
        Check.retype(x, 0, "0000;----");
        check.same("GAP 3: 11", x.few(0, 11), 3);
        check.same("GAP 3: 12", x.few(0, 12), 1);
        x.set(0, 0);
        check.same("GAP 0", x.few(0, 0), 1);
        Check.retype(x, 1, "1111");
        check.same("one", x.few(1, 0), 1);
        Check.retype(x, 1, "0000;1111;2222;3333;4444;5555;6666;7777;8888;9999;0909;9090");
        check.same("twelve, each alone", x.few(1, 0), 4095);
        check.same("twelve by 4", x.few(1, 4), 1 | 4 | 32 | 256 | 1024 | 2048);
        check.same("strip -1", x.few(-1, 0), -2);
        check.same("strip 2", x.few(2, 0), -2);
        check.same("t -1", x.few(1, -1), -2);
        check.same("t 61", x.few(1, 61), -2);
        x.type(1, ';');
        check.same("with a FAULT", x.few(1, 0), -3);
        x.wipe(1);
        check.same("empty", x.few(1, 0), -3);
        check.same("empty, BAD first", x.few(1, 61), -2);
    }
}
