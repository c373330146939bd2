/**
 * "Refusals, the first that fits, in the order told at each act: BAD .., NULL, NOT .., FULL .., other FINDINGS. They
 * change nothing (FINDINGS but count() 8)": each act's refusals, and each where two of them would fit.
 */
public final class BoundsRefusalsTest {
    private static final Check check = new Check("BoundsRefusalsTest");
    private static final String NINE = "1110;1111;1112;1113;1114;1115;1116;1117;1118";
    private static final int BAD = -2, NOT = -3, FULL = -4;
    private static final int LEAST = Integer.MIN_VALUE;

    private interface Act {
        long on(DrumSlits x);
    }

    public static void main(String[] args) {
        strips();
        drums();
        wheels();
        dots();
        widths();
        orders();
        tries();
        blades();
        makingSheets();
        items();
        copies();
        writes();
        longs();
        nothingIsRefused();
        check.end();
    }

    /** STRIP 0 has three PICTURES, STRIP 1 80 bytes and a FAULT; LOOK 0 and TRIES are full; SHEET 1 is LOST. */
    private static DrumSlits full() {
        DrumSlits x = Check.strips("0000;1200;2-07", "1111;1111;1111;1111;1111;1111;1111;1111;1111;1111;"
            + "1111;1111;1111;1111;1111;1111;");
        for (int i = 0; i < 6; i++) {
            x.dot(0, 7 * i, i % 4);
        }
        x.dot(1, 20, 2);
        x.dot(1, 3, 1);
        for (int i = 1; i <= 40; i++) {
            x.tries(i, i % 10, i % 3 == 0 ? 1 : 0);
        }
        Check.row(x, 0, 0, 7, 8, 9);
        Check.row(x, 2, 2, 70000, -5);
        x.sheet(3, 1, 0);
        return x;
    }

    /** Nothing but nine PICTURES on STRIP 0 and a SHEET 0 without items. */
    private static DrumSlits bare() {
        DrumSlits x = Check.strips(NINE, "");
        x.sheet(0, 0, 0);
        return x;
    }

    private static void refused(String name, Act act, long due) {
        found(name, act, due, 0);
    }

    private static void found(String name, Act act, long due, int finding) {
        answersAndLeaves(name, full(), full(), act, due, finding);
    }

    private static void refusedBare(String name, Act act, long due) {
        answersAndLeaves(name, bare(), bare(), act, due, 0);
    }

    /** The act on x answers what is due, and leaves x as its twin, that had no such call, but for count() 8. */
    private static void answersAndLeaves(String name, DrumSlits x, DrumSlits twin, Act act, long due, int finding) {
        check.same(name, act.on(x), due);
        check.same(name + ": count(8)", x.count(8), finding);
        check.same(name + ": digest", x.digest(), twin.digest());
        check.same(name + ": UNLIKE", x.set(1, 10), 10);
        check.same(name + ": SHEETS", sheets(x), sheets(twin));
        for (int strip = 0; strip <= 1; strip++) {
            check.same(name + ": behind STRIP " + strip, x.type(strip, ';'), twin.type(strip, ';'));
        }
        for (int look = 0; look <= 1; look++) {
            check.same(name + ": behind LOOK " + look, x.dot(look, 9, 1), twin.dot(look, 9, 1));
        }
        check.same(name + ": behind TRIES", x.tries(9, 1, 0), twin.tries(9, 1, 0));
        check.same(name + ": digest of more", x.digest(), twin.digest());
    }

    /** All that get() tells of SHEETS, and which FINDINGS, whatever was the latest. */
    private static long sheets(DrumSlits x) {
        long h = x.sheet(0, 0, -1);
        for (int s = 0; s < 4; s++) {
            for (int form = 0; form < 3; form++) {
                for (int i = 0; i < 4; i++) {
                    h = 31 * h + x.get(s, form, i);
                    h = 31 * h + x.count(8);
                }
            }
        }
        return h;
    }

    private static void strips() {
        refused("type: no STRIP", x -> x.type(2, '1'), BAD);
        refused("type: no byte", x -> x.type(0, 256), BAD);
        refused("type: FULL", x -> x.type(1, '1'), FULL);
        refused("type: BAD ahead of FULL", x -> x.type(1, -1), BAD);
        refused("wipe: no STRIP", x -> x.wipe(-1), BAD);
        refused("fault: no STRIP", x -> x.fault(2), BAD);
        refused("place: no PICTURE", x -> x.place(0, 3, 0), BAD);
        refused("place: a FAULT", x -> x.place(1, 0, 0), BAD);
        refused("step: no PICTURE", x -> x.step(0, 0, 3), BAD);
        refused("whole: no STRIP", x -> x.whole(2), BAD);
        refused("set: no GAP", x -> x.set(0, 10), BAD);
        refused("set: no UNLIKE", x -> x.set(1, 61), BAD);
        refused("set: no such thing", x -> x.set(2, 1), BAD);
    }

    private static void drums() {
        refused("drum: no such thing", x -> x.drum(1, 1, 2), BAD);
        refused("drum: no SLITS", x -> x.drum(0, 1, 0), BAD);
        refused("seen: NOT", x -> x.seen(1, 24, 999), NOT);
        refused("seen: BAD SLITS ahead of NOT", x -> x.seen(1, 25, 999), BAD);
        refused("seen: BAD k ahead of NOT", x -> x.seen(1, 24, 1000), BAD);
        refused("seen: no STRIP", x -> x.seen(2, 1, 0), BAD);
        refused("numbers: no ADVANCE", x -> x.numbers(25, 0, 0), BAD);
        refused("numbers: no i", x -> x.numbers(24, 0, -2), BAD);
    }

    private static void wheels() {
        refused("fits: no SPOKES", x -> x.fits(37, 0, 1, -1, 0), BAD);
        refused("fits: no second", x -> x.fits(36, 0, 1, 0, 0), BAD);
        refused("fits: no i", x -> x.fits(36, 0, 1, 1, -2), BAD);
        refused("upTo: no number", x -> x.upTo(36, 0, 1, 1, 1000), BAD);
    }

    private static void dots() {
        refused("dot: FULL", x -> x.dot(0, 59, 3), FULL);
        refused("dot: BAD PLACE ahead of FULL", x -> x.dot(0, 60, 3), BAD);
        refused("dot: BAD FORM ahead of FULL", x -> x.dot(0, 59, 4), BAD);
        refused("dot: no LOOK", x -> x.dot(2, 59, 3), BAD);
        refused("dot: no PLACE of a LOOK that has room", x -> x.dot(1, 60, 0), BAD);
        found("read: NULL", x -> x.read(1, 1), Check.NULL, 1);
        found("read: NULL, into a full LOOK", x -> x.read(1, 0), Check.NULL, 1);
        refused("read: BAD LOOK ahead of NULL", x -> x.read(1, 2), BAD);
        refused("read: no SHEET", x -> x.read(4, 1), BAD);
        refused("read: a full LOOK takes none", x -> x.read(0, 0), 0);
        refused("blink: no LOOK", x -> x.blink(2), BAD);
        refused("join: no such thing", x -> x.join(3), BAD);
        refused("joined: no DOT", x -> x.joined(1, 2), BAD);
        refused("joined: no LOOK", x -> x.joined(2, 0), BAD);
    }

    private static void widths() {
        refused("wide: no V", x -> x.wide(100, 1, 1), BAD);
        refused("wide: no A", x -> x.wide(99, 0, 1), BAD);
        refused("slit: no LIGHT", x -> x.slit(100, 1), BAD);
        refused("slit: no BLUR", x -> x.slit(1, 100), BAD);
    }

    private static void orders() {
        refused("order: NOT", x -> x.order(1, 0), NOT);
        refused("order: NOT ahead of i beyond", x -> x.order(1, 99), NOT);
        refused("order: BAD i ahead of NOT", x -> x.order(1, -2), BAD);
        refused("order: i beyond", x -> x.order(0, 3), BAD);
        refusedBare("order: FULL", x -> x.order(0, 0), FULL);
        refusedBare("order: FULL ahead of i beyond", x -> x.order(0, 9), FULL);
        refusedBare("order: BAD i ahead of FULL", x -> x.order(0, -2), BAD);
        refused("orders: NOT", x -> x.orders(1), NOT);
        refusedBare("orders: FULL", x -> x.orders(0), FULL);
        refused("orders: no STRIP", x -> x.orders(2), BAD);
        refused("missing: NOT", x -> x.missing(1, 1), NOT);
        refused("missing: BAD ahead of NOT", x -> x.missing(1, 2), BAD);
        refused("half: no PICTURE", x -> x.half(0, 3, 0), BAD);
        refused("half: a FAULT", x -> x.half(1, 0, 0), BAD);
        refused("few: NOT", x -> x.few(1, 60), NOT);
        refused("few: BAD ahead of NOT", x -> x.few(1, 61), BAD);
    }

    private static void tries() {
        refused("tries: FULL", x -> x.tries(60, 9, 1), FULL);
        refused("tries: BAD PACE ahead of FULL", x -> x.tries(61, 9, 1), BAD);
        refused("tries: BAD BRIGHT ahead of FULL", x -> x.tries(60, 10, 1), BAD);
        refused("tries: BAD ONE ahead of FULL", x -> x.tries(60, 9, 2), BAD);
        refusedBare("tries: no PACE", x -> x.tries(0, 9, 1), BAD);
        refused("wrong: no a", x -> x.wrong(61, 0), BAD);
        refused("wrong: no b", x -> x.wrong(60, 10), BAD);
        refusedBare("line: NOT", x -> x.line(0), NOT);
        refusedBare("line: BAD ahead of NOT", x -> x.line(3), BAD);
    }

    private static void blades() {
        found("bent: NULL", x -> x.bent(1, 0), Check.NULL, 1);
        refused("bent: BAD ahead of NULL", x -> x.bent(1, 3), BAD);
        refused("bent: no SHEET", x -> x.bent(4, 0), BAD);
        refused("bent: NOT", x -> x.bent(3, 2), NOT);
        refused("bent: BAD ahead of NOT", x -> x.bent(3, -1), BAD);
    }

    private static void makingSheets() {
        refused("sheet: no SHEET", x -> x.sheet(4, 0, 1), BAD);
        refused("sheet: no FORM", x -> x.sheet(0, 3, 1), BAD);
        refused("sheet: above 60", x -> x.sheet(0, 0, 61), BAD);
        refused("sheet: BAD SHEET ahead of SIZE", x -> x.sheet(4, 0, -1), BAD);
        refused("sheet: BAD FORM ahead of SIZE", x -> x.sheet(0, 3, -1), BAD);
        found("sheet: SIZE", x -> x.sheet(0, 0, -1), Check.SIZE, 5);
        found("sheet: SIZE of one that is LOST", x -> x.sheet(1, 0, LEAST), Check.SIZE, 5);
        found("lose: NULL", x -> x.lose(1), Check.NULL, 1);
        refused("lose: no SHEET", x -> x.lose(4), BAD);
    }

    private static void items() {
        found("put: NULL", x -> x.put(1, 0, 0, 1), Check.NULL, 1);
        found("put: NULL ahead of INDEX", x -> x.put(1, 0, -1, 1), Check.NULL, 1);
        found("put: CAST", x -> x.put(0, 1, 0, 1), Check.CAST, 3);
        found("put: CAST ahead of INDEX", x -> x.put(0, 1, 3, 1), Check.CAST, 3);
        found("put: INDEX", x -> x.put(0, 0, 3, 1), Check.INDEX, 2);
        found("put: INDEX of none", x -> x.put(3, 1, 0, 1), Check.INDEX, 2);
        refused("put: BAD FORM ahead of NULL", x -> x.put(1, 3, 0, 1), BAD);
        refused("put: BAD FORM ahead of CAST", x -> x.put(0, 3, 0, 1), BAD);
        refused("put: no SHEET", x -> x.put(4, 0, 0, 1), BAD);
        found("get: NULL", x -> x.get(1, 0, 0), LEAST, 1);
        found("get: CAST ahead of INDEX", x -> x.get(0, 2, 3), LEAST, 3);
        found("get: INDEX", x -> x.get(0, 0, 3), LEAST, 2);
        refused("get: BAD FORM ahead of NULL", x -> x.get(1, 3, 0), LEAST);
        refused("get: no SHEET", x -> x.get(4, 0, 0), LEAST);
    }

    private static void copies() {
        refused("copy: BAD t ahead of NULL", x -> x.copy(1, 0, 4, 0, 1), BAD);
        refused("copy: BAD s ahead of NULL", x -> x.copy(-1, 0, 1, 0, 1), BAD);
        found("copy: NULL s", x -> x.copy(1, 0, 0, 0, 1), Check.NULL, 1);
        found("copy: NULL t", x -> x.copy(0, 0, 1, 0, 1), Check.NULL, 1);
        found("copy: NULL ahead of INDEX", x -> x.copy(0, 9, 1, 0, 1), Check.NULL, 1);
        found("copy: STORE", x -> x.copy(0, 0, 2, 0, 1), Check.STORE, 4);
        found("copy: STORE ahead of INDEX", x -> x.copy(0, 0, 3, 0, 1), Check.STORE, 4);
        found("copy: INDEX", x -> x.copy(0, 1, 0, 0, 3), Check.INDEX, 2);
        found("copy: INDEX of n 0", x -> x.copy(0, 4, 0, 0, 0), Check.INDEX, 2);
        found("copy: INDEX, on in itself", x -> x.copy(0, 0, 0, 1, 3), Check.INDEX, 2);
    }

    private static void writes() {
        refused("write: no STRIP", x -> x.write(2, 1, 0), BAD);
        refused("write: BAD SLITS ahead of NULL", x -> x.write(0, 0, 1), BAD);
        refused("write: BAD SHEET ahead of NOT", x -> x.write(1, 1, 4), BAD);
        found("write: NULL", x -> x.write(0, 1, 1), Check.NULL, 1);
        found("write: NULL ahead of NOT", x -> x.write(1, 1, 1), Check.NULL, 1);
        refused("write: NOT", x -> x.write(1, 1, 0), NOT);
        refused("count: no such thing", x -> x.count(9), BAD);
    }

    /** "Where the answer is a long, a refusal -x is the least long and x more". */
    private static void longs() {
        refused("drift: no SLITS", x -> x.drift(25, 1, 0), Long.MIN_VALUE + 2);
        refused("drift: no such thing", x -> x.drift(24, 1, 2), Long.MIN_VALUE + 2);
        refused("wheel: no TURNS", x -> x.wheel(1, 1000, 1, 0), Long.MIN_VALUE + 2);
        refused("wheel: no such thing", x -> x.wheel(1, 999, 1, 2), Long.MIN_VALUE + 2);
        refused("narrow: no W", x -> x.narrow(100, 1, 1, 0), Long.MIN_VALUE + 2);
        refused("narrow: no such thing", x -> x.narrow(99, 1, 1, -1), Long.MIN_VALUE + 2);
        refused("drift: -2 is no refusal", x -> x.drift(10, 6, 0), -2);
        refused("wheel: -2 is no refusal", x -> x.wheel(1, 36, 1, 0), -2);
        refused("wheel: -3 is no refusal", x -> x.wheel(1, 51, 1, 0), -3);
        refused("wheel: -4 is no refusal", x -> x.wheel(1, 44, 1, 0), -4);
    }

    /** "where any number is told": net() and digest() refuse nothing, of nothing either. */
    private static void nothingIsRefused() {
        check.same("NET of nothing", new DrumSlits().net(), 0);
        DrumSlits x = new DrumSlits();
        x.dot(0, 20, 0);
        x.dot(1, 18, 0);
        check.same("NET -2", x.net(), -2);
        x.blink(1);
        check.same("NET to none", x.net(), 0);
        long before = full().digest();
        check.same("digest of like ones", full().digest(), before);
    }
}
