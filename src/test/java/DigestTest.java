/** Promise 41: the digest, told again from the public calls alone, and that it changes nothing. */
public final class DigestTest {
    private static final Check check = new Check("DigestTest");

    public static void main(String[] args) {
        DrumSlits x = new DrumSlits();
        alike("new", x);
        check.same("new, by number", x.digest(), ofNew());
        x = full();
        alike("full", x);
        long before = x.digest();
        check.same("again", x.digest(), before);
        x.lose(3);
        check.same("a FINDING is not in it", x.digest(), before);
        check.same("it leaves the FINDING", x.count(8), 1);
        x.sheet(2, 1, 5);
        check.same("SHEETS are not in it", x.digest(), before);
        x.set(0, 4);
        alike("other GAP", x);
        x.type(0, '!');
        alike("with a FAULT", x);
        Check.retype(x, 1, "0000;1111;2222;3333;4444;5555;6666;7777;8888");
        alike("nine PICTURES", x);
        Check.retype(x, 0, "0000;9000;9900;9990;9999;0999");
        alike("six PICTURES: by 12 slits not as by 11", x);
        Check.retype(x, 0, "0000;5000");
        alike("a STEP of 5", x);
        Check.retype(x, 0, "0000;6000");
        alike("a STEP of 6", x);
        x.blink(0);
        alike("no DOTS in one LOOK", x);
        check.end();
    }

    private static DrumSlits full() {
        DrumSlits x = Check.strips("0-95;39-4;1--9", "7-31;7131");
        int[] spots = {3, 50, 20, 40, 59};
        for (int i = 0; i < spots.length; i++) {
            x.dot(i % 2, spots[i], i % 3);
            x.tries(10 * i + 5, i, i % 2);
        }
        return x;
    }

    private static void alike(String name, DrumSlits x) {
        check.same(name + ": digest", x.digest(), told(x));
    }

    private static long told(DrumSlits x) {
        long h = 17;
        for (int what = 0; what < 8; what++) {
            h = 31 * h + x.count(what);
        }
        for (int strip = 0; strip < 2; strip++) {
            h = 31 * h + x.fault(strip);
            h = 31 * h + x.whole(strip);
            h = 31 * h + x.seen(strip, 12, -1);
            h = 31 * h + x.missing(strip, 0);
            h = 31 * h + x.missing(strip, 1);
            h = 31 * h + x.few(strip, 5);
            h = 31 * h + x.orders(strip);
            for (int i = 0; i < 4 * x.count(strip); i++) {
                h = 31 * h + x.place(strip, i / 4, i % 4);
            }
        }
        for (int what = 0; what < 3; what++) {
            h = 31 * h + x.join(what);
        }
        h = 31 * h + x.net();
        for (int look = 0; look < 2; look++) {
            for (int dot = 0; dot < x.count(4 + look); dot++) {
                h = 31 * h + x.joined(look, dot);
            }
        }
        h = 31 * h + x.numbers(1, 2, -1);
        for (int what = 0; what < 3; what++) {
            h = 31 * h + x.line(what);
        }
        return h;
    }

    /** Each number that a new object tells, in the order of the promise. */
    private static long ofNew() {
        int[] told = {0, 0, 0, 0, 0, 0, 0, 3, -1, 0, -3, -3, -3, -3, -3, -1, 0, -3, -3, -3, -3, -3,
            0, 1, 0, 0, 92, -3, -3, -3};
        long h = 17;
        for (int v : told) {
            h = 31 * h + v;
        }
        return h;
    }
}
