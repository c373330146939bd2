/** Promises 30 to 33: TRIES, WRONG, BEST LINE, BENT. */
public final class TriesTest {
    private static final Check check = new Check("TriesTest");

    public static void main(String[] args) {
        tries();
        wrong();
        lines();
        bent();
        wrongBlades();
        check.end();
    }

    private static void tries() {
        DrumSlits x = new DrumSlits();
        check.same("pace 0", x.tries(0, 0, 0), -2);
        check.same("pace 61", x.tries(61, 0, 0), -2);
        check.same("bright -1", x.tries(1, -1, 0), -2);
        check.same("bright 10", x.tries(1, 10, 0), -2);
        check.same("one -1", x.tries(1, 0, -1), -2);
        check.same("one 2", x.tries(1, 0, 2), -2);
        check.same("refusals add nothing", x.count(6), 0);
        check.same("the first", x.tries(1, 0, 0), 1);
        check.same("the second", x.tries(60, 9, 1), 2);
        for (int i = 3; i <= 40; i++) {
            check.same("try " + i, x.tries(30, 5, 1), i);
        }
        check.same("the 41.", x.tries(30, 5, 1), -4);
        check.same("a bad 41.", x.tries(0, 5, 1), -2);
        check.same("40", x.count(6), 40);
    }

    private static void wrong() {
        DrumSlits x = new DrumSlits();
        check.same("of none", x.wrong(0, 0), 0);
        x.tries(10, 0, 1);
        check.same("from 10 on", x.wrong(10, 0), 0);
        check.same("from 11 on", x.wrong(11, 0), 1);
        check.same("dark: b does nothing", x.wrong(10, 9), 0);
        x.tries(10, 3, 0);
        check.same("bright: 10", x.wrong(10, 0), 1);
        check.same("bright: 13", x.wrong(10, 1), 0);
        check.same("bright: 4 and 2 times 3", x.wrong(4, 2), 1);
        check.same("bright: 5 and 2 times 3", x.wrong(5, 2), 0);
        check.same("at 60", x.wrong(60, 9), 1);
        check.same("at 0", x.wrong(0, 0), 1);
        check.same("a -1", x.wrong(-1, 0), -2);
        check.same("a 61", x.wrong(61, 0), -2);
        check.same("b -1", x.wrong(0, -1), -2);
        check.same("b 10", x.wrong(0, 10), -2);
    }

    private static void told(String name, DrumSlits x, int a, int b, int fewest) {
        check.same(name + ": a", x.line(0), a);
        check.same(name + ": b", x.line(1), b);
        check.same(name + ": WRONG", x.line(2), fewest);
        check.same(name + ": as wrong() tells", x.wrong(a, b), fewest);
    }

    private static void lines() {
        DrumSlits x = new DrumSlits();
        check.same("none", x.line(0), -3);
        check.same("none, 2", x.line(2), -3);
        check.same("what -1", x.line(-1), -2);
        check.same("what 3", x.line(3), -2);
        x.tries(20, 0, 1);
        told("one man", x, 0, 0, 0);
        x.tries(19, 0, 0);
        told("from 20 on", x, 20, 0, 0);
        x.tries(30, 5, 0);
        told("bright ones need more", x, 20, 3, 0);
        x.tries(50, 5, 1);
        told("up to 50", x, 20, 3, 0);
        x.tries(19, 0, 1);
        told("one is told otherwise: from 0", x, 0, 7, 1);
        x = new DrumSlits();
        x.tries(60, 0, 0);
        told("never", x, 0, 0, 1);
        x = new DrumSlits();
        x.tries(59, 0, 0);
        told("only at 60", x, 60, 0, 0);
        x = new DrumSlits();
        x.tries(60, 9, 0);
        told("a least, then b", x, 0, 7, 0);
        x.tries(1, 0, 0);
        told("a 2", x, 2, 7, 0);
    }

    private static void blade(String name, DrumSlits x, int s, int pace, int start, int sum) {
        check.same(name + ": P", x.bent(s, 0), pace);
        check.same(name + ": Q", x.bent(s, 1), start);
        check.same(name + ": sum", x.bent(s, 2), sum);
    }

    private static void bent() {
        DrumSlits x = new DrumSlits();
        Check.row(x, 0, 0, 17);
        blade("one row", x, 0, 0, 17, 0);
        Check.row(x, 0, 0, 17, 17, 17, 17);
        blade("it stands", x, 0, 0, 17, 0);
        Check.row(x, 0, 0, 50, 57, 4, 11);
        blade("7 a row", x, 0, 7, 50, 0);
        Check.row(x, 0, 0, 3, 2, 1, 0, 59, 58);
        blade("back by one", x, 0, 59, 3, 0);
        Check.row(x, 0, 0, 0, 30, 0, 30);
        blade("half round", x, 0, 30, 0, 0);
        Check.row(x, 0, 0, 10, 20, 30, 41, 50);
        blade("one off", x, 0, 10, 10, 1);
        Check.row(x, 0, 0, 0, 0, 1);
        blade("least P", x, 0, 0, 0, 1);
        Check.row(x, 0, 0, -1, 59, 119, -61);
        blade("round below 0", x, 0, 0, 59, 0);
        Check.row(x, 1, 2, Integer.MIN_VALUE, Integer.MAX_VALUE);
        blade("the ends of int", x, 1, Math.floorMod(7 - 52, 60), 52, 0);
        Check.row(x, 2, 1, 60000, 60001);
        blade("shorts with a sign", x, 2, 1, Math.floorMod(60000 - 65536, 60), 0);
        int[] spread = new int[60];
        for (int y = 0; y < 60; y++) {
            spread[y] = 11 * y + 5;
        }
        Check.row(x, 3, 2, spread);
        blade("sixty rows", x, 3, 11, 5, 0);
        spread[59] += 3;
        spread[7] -= 2;
        Check.row(x, 3, 2, spread);
        blade("sixty rows, two off", x, 3, 11, 5, 5);
    }

    private static void wrongBlades() {
        DrumSlits x = new DrumSlits();
        check.same("sheet -1", x.bent(-1, 0), -2);
        check.same("sheet 4", x.bent(4, 0), -2);
        check.same("what -1", x.bent(0, -1), -2);
        check.same("what 3", x.bent(0, 3), -2);
        check.same("BAD is no FINDING", x.count(8), 0);
        check.same("lost", x.bent(0, 0), Check.NULL);
        check.same("lost, told", x.count(8), 1);
        x.sheet(0, 2, 0);
        check.same("no items", x.bent(0, 0), -3);
        x.sheet(0, 2, 1);
        blade("a 0", x, 0, 0, 0, 0);
    }
}
