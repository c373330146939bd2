/** Boundary cases of SHEETS and FINDINGS (Terms 1) and of promises 34 to 39: a test for each sentence. */
public final class BoundsSheetsTest {
    private static final Check check = new Check("BoundsSheetsTest");
    private static final int LEAST = Integer.MIN_VALUE;
    private static final int MOST = Integer.MAX_VALUE;
    private static final int BYTES = 0, SHORTS = 1, INTS = 2;

    public static void main(String[] args) {
        terms();
        making();
        losing();
        putting();
        getting();
        copying();
        writing();
        check.end();
    }

    /** An answer, and the FINDING that count() 8 tells behind it. */
    private static void found(String call, DrumSlits x, long got, long due, int finding) {
        check.same(call, got, due);
        check.same(call + ": count(8)", x.count(8), finding);
    }

    private static void items(String name, DrumSlits x, int s, int form, int... due) {
        for (int i = 0; i < due.length; i++) {
            check.same(name + ": item " + i, x.get(s, form, i), due[i]);
        }
        check.same(name + ": no item more", x.get(s, form, due.length), LEAST);
    }

    // ---- Terms 1

    private static void terms() {
        fourSheets();
        lostAtFirst();
        bytes();
        shorts();
        ints();
        zeroAtFirst();
        findings();
    }

    /** "SHEETS 0 .. 3". */
    private static void fourSheets() {
        DrumSlits x = new DrumSlits();
        check.same("SHEET -1", x.sheet(-1, BYTES, 1), -2);
        for (int s = 0; s <= 3; s++) {
            check.same("SHEET " + s, x.sheet(s, BYTES, 1), 1);
            x.put(s, BYTES, 0, s + 1);
        }
        check.same("SHEET 4", x.sheet(4, BYTES, 1), -2);
        for (int s = 0; s <= 3; s++) {
            check.same("each its own: SHEET " + s, x.get(s, BYTES, 0), s + 1);
        }
    }

    /** "are LOST (at first) or a row". */
    private static void lostAtFirst() {
        for (int s = 0; s <= 3; s++) {
            DrumSlits x = new DrumSlits();
            check.same("LOST: SHEET " + s, x.put(s, BYTES, 0, 1), -11);
            x.sheet(s, BYTES, 1);
            check.same("a row: SHEET " + s, x.put(s, BYTES, 0, 1), 1);
            check.same("the next is LOST still", x.put((s + 1) % 4, BYTES, 0, 1), -11);
        }
    }

    private static void keeps(int form, int v, int due) {
        DrumSlits x = new DrumSlits();
        x.sheet(0, form, 1);
        check.same("put " + v, x.put(0, form, 0, v), 1);
        check.same("FORM " + form + " of " + v, x.get(0, form, 0), due);
    }

    /** "0 bytes"; "(the lowest bits that it has, with its sign ..)". */
    private static void bytes() {
        keeps(BYTES, 127, 127);
        keeps(BYTES, 128, -128);
        keeps(BYTES, -128, -128);
        keeps(BYTES, -129, 127);
        keeps(BYTES, 255, -1);
        keeps(BYTES, 256, 0);
        keeps(BYTES, MOST, -1);
        keeps(BYTES, LEAST, 0);
    }

    /** "1 shorts". */
    private static void shorts() {
        keeps(SHORTS, 128, 128);
        keeps(SHORTS, 32767, 32767);
        keeps(SHORTS, 32768, -32768);
        keeps(SHORTS, -32768, -32768);
        keeps(SHORTS, -32769, 32767);
        keeps(SHORTS, 65535, -1);
        keeps(SHORTS, 65536, 0);
        keeps(SHORTS, MOST, -1);
        keeps(SHORTS, LEAST, 0);
    }

    /** "2 ints". */
    private static void ints() {
        keeps(INTS, 32768, 32768);
        keeps(INTS, -32769, -32769);
        keeps(INTS, MOST, MOST);
        keeps(INTS, LEAST + 1, LEAST + 1);
        keeps(INTS, LEAST, LEAST);
    }

    /** "of 0 to 60 items (0 at first)". */
    private static void zeroAtFirst() {
        DrumSlits x = new DrumSlits();
        x.sheet(0, INTS, 60);
        check.same("item 0 at first", x.get(0, INTS, 0), 0);
        check.same("item 59 at first", x.get(0, INTS, 59), 0);
        x.put(0, INTS, 0, 7);
        x.put(0, INTS, 59, 9);
        check.same("item 59 then", x.get(0, INTS, 59), 9);
        x.sheet(0, INTS, 60);
        check.same("item 0 of a new row", x.get(0, INTS, 0), 0);
        check.same("item 59 of a new row", x.get(0, INTS, 59), 0);
        x.put(0, INTS, 59, 9);
        x.lose(0);
        x.sheet(0, BYTES, 1);
        x.sheet(0, INTS, 60);
        check.same("item 59 of a row behind a shorter one", x.get(0, INTS, 59), 0);
    }

    /** "FINDINGS (answers -10 less the number; ..): 1 NULL .. 2 INDEX .. 3 CAST .. 4 STORE .. 5 SIZE". */
    private static void findings() {
        DrumSlits x = new DrumSlits();
        found("none yet", x, x.count(7), 3, 0);
        found("NULL: the SHEET is LOST", x, x.lose(0), -11, 1);
        Check.row(x, 0, BYTES, 1, 2);
        Check.row(x, 1, SHORTS, 1, 2);
        found("INDEX: there is no such item", x, x.put(0, BYTES, 2, 0), -12, 2);
        found("there is such an item", x, x.put(0, BYTES, 1, 0), 1, 2);
        found("CAST: it has another FORM", x, x.put(0, SHORTS, 1, 0), -13, 3);
        found("STORE: unlike FORMS", x, x.copy(0, 0, 1, 0, 1), -14, 4);
        found("like FORMS", x, x.copy(0, 0, 0, 1, 1), 1, 4);
        found("SIZE: below 0", x, x.sheet(0, BYTES, -1), -15, 5);
        found("not below 0", x, x.sheet(0, BYTES, 0), 0, 5);
    }

    // ---- promise 34

    private static void making() {
        sheetNumber();
        sheetForm();
        sheetItems();
        sheetBelowZero();
        sheetIsNew();
    }

    /** "BAD: SHEET". */
    private static void sheetNumber() {
        DrumSlits x = new DrumSlits();
        found("SHEET -1", x, x.sheet(-1, BYTES, 5), -2, 0);
        found("SHEET 0", x, x.sheet(0, BYTES, 5), 5, 0);
        found("SHEET 3", x, x.sheet(3, BYTES, 5), 5, 0);
        found("SHEET 4", x, x.sheet(4, BYTES, 5), -2, 0);
        found("SHEET, the least", x, x.sheet(LEAST, BYTES, 5), -2, 0);
        found("SHEET, the most", x, x.sheet(MOST, BYTES, 5), -2, 0);
        found("SHEET 4 ahead of SIZE", x, x.sheet(4, BYTES, -1), -2, 0);
    }

    /** "BAD: .. FORM". */
    private static void sheetForm() {
        DrumSlits x = new DrumSlits();
        found("FORM -1", x, x.sheet(0, -1, 5), -2, 0);
        found("FORM 0", x, x.sheet(0, 0, 5), 5, 0);
        found("FORM 2", x, x.sheet(0, 2, 5), 5, 0);
        found("FORM 3", x, x.sheet(0, 3, 5), -2, 0);
        found("FORM, the least", x, x.sheet(0, LEAST, 5), -2, 0);
        found("FORM, the most", x, x.sheet(0, MOST, 5), -2, 0);
        found("FORM 3 ahead of SIZE", x, x.sheet(0, 3, -1), -2, 0);
        found("FORM -1 ahead of SIZE", x, x.sheet(0, -1, LEAST), -2, 0);
        found("the row of FORM 2 stays", x, x.get(0, 2, 4), 0, 0);
    }

    /** "n items: n. BAD: .. above 60". */
    private static void sheetItems() {
        DrumSlits x = new DrumSlits();
        found("0 items", x, x.sheet(0, INTS, 0), 0, 0);
        found("1 item", x, x.sheet(0, INTS, 1), 1, 0);
        found("60 items", x, x.sheet(0, INTS, 60), 60, 0);
        found("61 items", x, x.sheet(0, INTS, 61), -2, 0);
        found("the most items", x, x.sheet(0, INTS, MOST), -2, 0);
        check.same("60 items stay: the last", x.put(0, INTS, 59, 1), 1);
        check.same("60 items stay: no more", x.put(0, INTS, 60, 1), -12);
        x.sheet(0, INTS, 0);
        check.same("0 items: no first", x.put(0, INTS, 0, 1), -12);
        x.sheet(0, INTS, 1);
        check.same("1 item: the first", x.put(0, INTS, 0, 1), 1);
        check.same("1 item: no second", x.put(0, INTS, 1, 1), -12);
    }

    /** "SIZE": n below 0. */
    private static void sheetBelowZero() {
        DrumSlits x = new DrumSlits();
        found("-1 items", x, x.sheet(0, BYTES, -1), -15, 5);
        found("it is LOST still", x, x.lose(0), -11, 1);
        Check.row(x, 0, SHORTS, 7);
        found("the least items", x, x.sheet(0, BYTES, LEAST), -15, 5);
        found("it is as it was", x, x.get(0, SHORTS, 0), 7, 5);
        found("0 items", x, x.sheet(0, BYTES, 0), 0, 5);
    }

    /** "A SHEET is a new row of a FORM". */
    private static void sheetIsNew() {
        DrumSlits x = new DrumSlits();
        Check.row(x, 0, BYTES, 5, 6);
        x.sheet(0, SHORTS, 3);
        items("of shorts", x, 0, SHORTS, 0, 0, 0);
        check.same("no longer of bytes", x.put(0, BYTES, 0, 1), -13);
        Check.row(x, 1, BYTES, 8);
        items("of another", x, 0, SHORTS, 0, 0, 0);
    }

    // ---- promise 35

    private static void losing() {
        loseSheet();
        loseLost();
    }

    /** "It is LOST: how many items it had. BAD". */
    private static void loseSheet() {
        DrumSlits x = new DrumSlits();
        x.sheet(0, BYTES, 0);
        x.sheet(3, BYTES, 60);
        found("SHEET -1", x, x.lose(-1), -2, 0);
        found("SHEET 0, of 0 items", x, x.lose(0), 0, 0);
        found("SHEET 3, of 60 items", x, x.lose(3), 60, 0);
        found("SHEET 4", x, x.lose(4), -2, 0);
        found("SHEET, the least", x, x.lose(LEAST), -2, 0);
        found("SHEET, the most", x, x.lose(MOST), -2, 0);
    }

    /** "NULL". */
    private static void loseLost() {
        DrumSlits x = new DrumSlits();
        found("LOST at first", x, x.lose(2), -11, 1);
        x.sheet(2, INTS, 4);
        check.same("not LOST", x.lose(2), 4);
        check.same("LOST again", x.lose(2), -11);
        check.same("LOST: put", x.put(2, INTS, 0, 1), -11);
        check.same("LOST: bent", x.bent(2, 0), -11);
        check.same("LOST: read", x.read(2, 0), -11);
    }

    // ---- promise 36

    private static void putting() {
        putSheet();
        putForm();
        putLost();
        putCast();
        putItem();
    }

    /** "BAD": no such SHEET. */
    private static void putSheet() {
        DrumSlits x = new DrumSlits();
        x.sheet(0, BYTES, 1);
        x.sheet(3, BYTES, 1);
        found("SHEET -1", x, x.put(-1, BYTES, 0, 1), -2, 0);
        found("SHEET 0", x, x.put(0, BYTES, 0, 1), 1, 0);
        found("SHEET 3", x, x.put(3, BYTES, 0, 1), 1, 0);
        found("SHEET 4", x, x.put(4, BYTES, 0, 1), -2, 0);
    }

    /** "BAD": no such FORM, ahead of NULL and CAST. */
    private static void putForm() {
        DrumSlits x = new DrumSlits();
        x.sheet(0, BYTES, 1);
        x.sheet(2, INTS, 1);
        found("FORM -1", x, x.put(0, -1, 0, 1), -2, 0);
        found("FORM 0", x, x.put(0, 0, 0, 1), 1, 0);
        found("FORM 2", x, x.put(2, 2, 0, 1), 1, 0);
        found("FORM 3", x, x.put(2, 3, 0, 1), -2, 0);
        found("FORM 3 of one that is LOST", x, x.put(1, 3, 0, 1), -2, 0);
    }

    /** "NULL", ahead of CAST and INDEX. */
    private static void putLost() {
        DrumSlits x = new DrumSlits();
        found("LOST", x, x.put(0, BYTES, 0, 1), -11, 1);
        found("LOST, no such item", x, x.put(0, BYTES, -1, 1), -11, 1);
        x.sheet(0, INTS, 1);
        x.lose(0);
        found("LOST again, of another FORM", x, x.put(0, BYTES, 9, 1), -11, 1);
        x.sheet(0, BYTES, 1);
        found("not LOST", x, x.put(0, BYTES, 0, 1), 1, 1);
    }

    /** "treated as of a FORM"; "CAST", ahead of INDEX. */
    private static void putCast() {
        for (int form = 0; form <= 2; form++) {
            for (int as = 0; as <= 2; as++) {
                DrumSlits x = new DrumSlits();
                x.sheet(0, form, 1);
                String name = "a row of FORM " + form + " as of " + as;
                found(name, x, x.put(0, as, 0, 1), form == as ? 1 : -13, form == as ? 0 : 3);
                found(name + ", beyond", x, x.put(0, as, 1, 1), form == as ? -12 : -13, form == as ? 2 : 3);
                check.same(name + ": it is", x.get(0, form, 0), form == as ? 1 : 0);
            }
        }
    }

    /** "Item i .. becomes v"; "INDEX". */
    private static void putItem() {
        DrumSlits x = new DrumSlits();
        Check.row(x, 0, BYTES, 1, 2, 3);
        check.same("item -1", x.put(0, BYTES, -1, 9), -12);
        check.same("item 3", x.put(0, BYTES, 3, 9), -12);
        check.same("item, the least", x.put(0, BYTES, LEAST, 9), -12);
        check.same("item, the most", x.put(0, BYTES, MOST, 9), -12);
        items("as they were", x, 0, BYTES, 1, 2, 3);
        check.same("item 0", x.put(0, BYTES, 0, 7), 1);
        check.same("item 2, the last", x.put(0, BYTES, 2, 8), 1);
        items("as put", x, 0, BYTES, 7, 2, 8);
        x.sheet(0, BYTES, 60);
        check.same("item 59", x.put(0, BYTES, 59, 1), 1);
        check.same("item 60", x.put(0, BYTES, 60, 1), -12);
        x.sheet(0, BYTES, 0);
        check.same("item 0 of none", x.put(0, BYTES, 0, 1), -12);
    }

    // ---- promise 37

    private static void getting() {
        getBad();
        getFindings();
        getItem();
        getLeast();
    }

    /** "BAD: the least int". */
    private static void getBad() {
        DrumSlits x = new DrumSlits();
        Check.row(x, 0, BYTES, 7);
        Check.row(x, 3, INTS, 8);
        found("SHEET -1", x, x.get(-1, BYTES, 0), LEAST, 0);
        found("SHEET 0", x, x.get(0, BYTES, 0), 7, 0);
        found("SHEET 3", x, x.get(3, INTS, 0), 8, 0);
        found("SHEET 4", x, x.get(4, BYTES, 0), LEAST, 0);
        found("FORM -1", x, x.get(0, -1, 0), LEAST, 0);
        found("FORM 3", x, x.get(0, 3, 0), LEAST, 0);
        found("FORM 3 of one that is LOST", x, x.get(1, 3, 0), LEAST, 0);
    }

    /** "so are NULL, CAST, INDEX (count() 8 tells)". */
    private static void getFindings() {
        DrumSlits x = new DrumSlits();
        found("NULL", x, x.get(0, BYTES, 0), LEAST, 1);
        Check.row(x, 0, BYTES, 7);
        found("CAST", x, x.get(0, SHORTS, 0), LEAST, 3);
        found("INDEX", x, x.get(0, BYTES, 1), LEAST, 2);
        found("CAST ahead of INDEX", x, x.get(0, INTS, 1), LEAST, 3);
        found("NULL ahead of both", x, x.get(1, INTS, 1), LEAST, 1);
        found("BAD leaves it", x, x.get(4, INTS, 1), LEAST, 1);
        found("none leaves it", x, x.get(0, BYTES, 0), 7, 1);
    }

    /** "Item i of it." */
    private static void getItem() {
        DrumSlits x = new DrumSlits();
        Check.row(x, 0, SHORTS, 4, 5, 6);
        found("item -1", x, x.get(0, SHORTS, -1), LEAST, 2);
        found("item 0", x, x.get(0, SHORTS, 0), 4, 2);
        found("item 2, the last", x, x.get(0, SHORTS, 2), 6, 2);
        x.lose(1);
        found("item 3", x, x.get(0, SHORTS, 3), LEAST, 2);
        x.lose(1);
        found("item, the least", x, x.get(0, SHORTS, LEAST), LEAST, 2);
        x.lose(1);
        found("item, the most", x, x.get(0, SHORTS, MOST), LEAST, 2);
    }

    /** The least int may be an item, too: then count() 8 stays. */
    private static void getLeast() {
        DrumSlits x = new DrumSlits();
        Check.row(x, 0, INTS, LEAST, LEAST + 1);
        found("the least int", x, x.get(0, INTS, 0), LEAST, 0);
        found("one more", x, x.get(0, INTS, 1), LEAST + 1, 0);
        found("INDEX", x, x.get(0, INTS, 2), LEAST, 2);
    }

    // ---- promise 38

    private static void copying() {
        copySheets();
        copyLost();
        copyStore();
        copyFrom();
        copyTo();
        copyNumber();
        copyOfNone();
        copyInOne();
    }

    private static DrumSlits twoRows() {
        DrumSlits x = new DrumSlits();
        Check.row(x, 0, BYTES, 1, 2, 3);
        Check.row(x, 3, BYTES, 7, 8);
        return x;
    }

    /** "BAD: the SHEETS", ahead of NULL. */
    private static void copySheets() {
        DrumSlits x = twoRows();
        found("from -1", x, x.copy(-1, 0, 3, 0, 1), -2, 0);
        found("from 4", x, x.copy(4, 0, 3, 0, 1), -2, 0);
        found("to -1", x, x.copy(0, 0, -1, 0, 1), -2, 0);
        found("to 4", x, x.copy(0, 0, 4, 0, 1), -2, 0);
        found("from LOST to 4", x, x.copy(1, 0, 4, 0, 1), -2, 0);
        found("from -1 to LOST", x, x.copy(-1, 0, 1, 0, 1), -2, 0);
        found("from 0 to 3", x, x.copy(0, 0, 3, 0, 1), 1, 0);
        found("from 3 to 0", x, x.copy(3, 1, 0, 2, 1), 1, 0);
        items("to 3", x, 3, BYTES, 1, 8);
        items("to 0", x, 0, BYTES, 1, 2, 8);
    }

    /** "NULL: s, t", ahead of STORE and INDEX. */
    private static void copyLost() {
        DrumSlits x = twoRows();
        found("s is LOST", x, x.copy(1, 0, 3, 0, 1), -11, 1);
        found("t is LOST", x, x.copy(0, 0, 2, 0, 1), -11, 1);
        found("both are", x, x.copy(1, 0, 2, 0, 1), -11, 1);
        found("itself is", x, x.copy(1, 0, 1, 0, 0), -11, 1);
        x.sheet(1, INTS, 1);
        x.lose(1);
        found("t is LOST, unlike", x, x.copy(0, 0, 1, 0, 1), -11, 1);
        found("t is LOST, no such item", x, x.copy(0, -1, 1, 0, 1), -11, 1);
        found("s is LOST, no such item", x, x.copy(1, 0, 0, 9, 1), -11, 1);
        found("neither is", x, x.copy(0, 0, 3, 0, 1), 1, 1);
    }

    /** "STORE", ahead of INDEX. */
    private static void copyStore() {
        for (int form = 0; form <= 2; form++) {
            for (int other = 0; other <= 2; other++) {
                DrumSlits x = new DrumSlits();
                x.sheet(0, form, 2);
                x.sheet(1, other, 2);
                String name = "from FORM " + form + " to " + other;
                boolean like = form == other;
                found(name, x, x.copy(0, 0, 1, 0, 1), like ? 1 : -14, like ? 0 : 4);
                found(name + ", none", x, x.copy(0, 0, 1, 0, 0), like ? 1 : -14, like ? 0 : 4);
                found(name + ", no such item", x, x.copy(0, 3, 1, 0, 1), like ? -12 : -14, like ? 2 : 4);
            }
        }
    }

    private static void noCopy(int i, int j, int n) {
        DrumSlits x = twoRows();
        found("copy i " + i + " j " + j + " n " + n, x, x.copy(0, i, 3, j, n), -12, 2);
        items("nothing came", x, 3, BYTES, 7, 8);
        items("nothing went", x, 0, BYTES, 1, 2, 3);
    }

    private static void copies(int i, int j, int n, int... due) {
        DrumSlits x = twoRows();
        found("copy i " + i + " j " + j + " n " + n, x, x.copy(0, i, 3, j, n), 1, 0);
        items("they came", x, 3, BYTES, due);
        items("they stay", x, 0, BYTES, 1, 2, 3);
    }

    /** "from i on": "INDEX: i .. below 0, not so many there". */
    private static void copyFrom() {
        noCopy(-1, 0, 1);
        copies(0, 0, 1, 1, 8);
        copies(2, 0, 1, 3, 8);
        noCopy(3, 0, 1);
        copies(1, 0, 2, 2, 3);
        noCopy(2, 0, 2);
        noCopy(LEAST, 0, 1);
        noCopy(MOST, 0, 1);
    }

    /** "from j on": "INDEX: .. j .. below 0, not so many there". */
    private static void copyTo() {
        noCopy(0, -1, 1);
        copies(0, 0, 2, 1, 2);
        copies(0, 1, 1, 7, 1);
        noCopy(0, 1, 2);
        noCopy(0, 2, 1);
        noCopy(0, LEAST, 1);
        noCopy(0, MOST, 1);
    }

    /** "INDEX: .. n below 0, not so many there". */
    private static void copyNumber() {
        noCopy(0, 0, -1);
        copies(0, 0, 0, 7, 8);
        copies(0, 0, 2, 1, 2);
        noCopy(0, 0, 3);
        noCopy(0, 0, 4);
        noCopy(1, 1, -1);
        noCopy(0, 0, LEAST);
        noCopy(0, 0, MOST);
        noCopy(1, 1, MOST);
        noCopy(MOST, MOST, MOST);
    }

    /** "(of n 0, too: i or j above the size)". */
    private static void copyOfNone() {
        copies(3, 2, 0, 7, 8);
        noCopy(4, 0, 0);
        noCopy(0, 3, 0);
        noCopy(-1, 0, 0);
        noCopy(0, -1, 0);
        noCopy(MOST, 0, 0);
        noCopy(0, MOST, 0);
        DrumSlits x = new DrumSlits();
        x.sheet(0, BYTES, 0);
        x.sheet(1, BYTES, 0);
        found("none of none", x, x.copy(0, 0, 1, 0, 0), 1, 0);
        found("one of none", x, x.copy(0, 0, 1, 0, 1), -12, 2);
        found("none behind none", x, x.copy(0, 1, 1, 0, 0), -12, 2);
    }

    /** "(perhaps s, as they were)". */
    private static void copyInOne() {
        DrumSlits x = new DrumSlits();
        Check.row(x, 1, SHORTS, 1, 2, 3, 4);
        check.same("on by one", x.copy(1, 0, 1, 1, 3), 1);
        items("on by one", x, 1, SHORTS, 1, 1, 2, 3);
        Check.row(x, 1, SHORTS, 1, 2, 3, 4);
        check.same("back by one", x.copy(1, 1, 1, 0, 3), 1);
        items("back by one", x, 1, SHORTS, 2, 3, 4, 4);
        Check.row(x, 1, SHORTS, 1, 2, 3, 4);
        check.same("to where they are", x.copy(1, 0, 1, 0, 4), 1);
        items("to where they are", x, 1, SHORTS, 1, 2, 3, 4);
        check.same("on by one, one too many", x.copy(1, 0, 1, 1, 4), -12);
        items("as they were", x, 1, SHORTS, 1, 2, 3, 4);
        int[] sixty = new int[60];
        for (int i = 0; i < 60; i++) {
            sixty[i] = i;
        }
        Check.row(x, 0, INTS, sixty);
        check.same("59 of 60", x.copy(0, 0, 0, 1, 59), 1);
        check.same("the last of 60", x.get(0, INTS, 59), 58);
        check.same("the first of 60", x.get(0, INTS, 0), 0);
        check.same("60 of 60 from 1", x.copy(0, 1, 0, 0, 60), -12);
    }

    // ---- promise 39

    private static void writing() {
        writeStrip();
        writeSlits();
        writeSheet();
        writeLost();
        writeNot();
        writeItems();
        writeForms();
    }

    /** "BAD": no such STRIP. */
    private static void writeStrip() {
        DrumSlits x = Check.strips("0000;1111", "0000;1111;2222");
        x.sheet(0, BYTES, 4);
        found("STRIP -1", x, x.write(-1, 1, 0), -2, 0);
        found("STRIP 2", x, x.write(2, 1, 0), -2, 0);
        found("STRIP 0", x, x.write(0, 2, 0), 4, 0);
        items("STRIP 0", x, 0, BYTES, 0, 1, 0, 1);
        check.same("STRIP 1", x.write(1, 3, 0), 4);
        items("STRIP 1", x, 0, BYTES, 0, 1, 2, 0);
    }

    /** "with so many SLITS" (1 to 24). */
    private static void writeSlits() {
        DrumSlits x = Check.strips("0000;1111;2222;3333;4444;5555;6666;7777;8888;9999;0101;1010", "");
        x.sheet(0, BYTES, 3);
        x.put(0, BYTES, 1, 77);
        found("SLITS 0", x, x.write(0, 0, 0), -2, 0);
        found("SLITS 25", x, x.write(0, 25, 0), -2, 0);
        found("SLITS -1", x, x.write(0, -1, 0), -2, 0);
        items("nothing came", x, 0, BYTES, 0, 77, 0);
        check.same("SLITS 1", x.write(0, 1, 0), 3);
        items("SLITS 1", x, 0, BYTES, 0, 0, 0);
        check.same("SLITS 23", x.write(0, 23, 0), 3);
        items("SLITS 23", x, 0, BYTES, 0, 1, 2);
        check.same("SLITS 24", x.write(0, 24, 0), 3);
        items("SLITS 24", x, 0, BYTES, 0, 0, 0);
    }

    /** "come to a SHEET": BAD, no such one, ahead of NOT. */
    private static void writeSheet() {
        DrumSlits x = Check.strips("0000;1111", "");
        x.sheet(3, BYTES, 2);
        found("SHEET -1", x, x.write(0, 2, -1), -2, 0);
        found("SHEET 3", x, x.write(0, 2, 3), 2, 0);
        found("SHEET 4", x, x.write(0, 2, 4), -2, 0);
        found("SHEET 4, no PICTURES", x, x.write(1, 2, 4), -2, 0);
    }

    /** "BAD; NULL; NOT": NULL is ahead of NOT. */
    private static void writeLost() {
        DrumSlits x = Check.strips("0000;1111", "");
        found("LOST, SLITS 0", x, x.write(0, 0, 0), -2, 0);
        found("LOST", x, x.write(0, 2, 0), -11, 1);
        found("LOST, no PICTURES", x, x.write(1, 2, 0), -11, 1);
        x.sheet(0, BYTES, 1);
        found("not LOST", x, x.write(0, 2, 0), 1, 1);
    }

    /** "NOT: the STRIP has no PICTURES." */
    private static void writeNot() {
        DrumSlits x = Check.strips("", "0000");
        Check.row(x, 0, BYTES, 7);
        found("no PICTURES", x, x.write(0, 1, 0), -3, 0);
        found("nothing came", x, x.get(0, BYTES, 0), 7, 0);
        x.sheet(1, BYTES, 0);
        found("no PICTURES, no items", x, x.write(0, 1, 1), -3, 0);
        found("one PICTURE", x, x.write(1, 1, 0), 1, 0);
        found("it came", x, x.get(0, BYTES, 0), 0, 0);
        x.type(1, ';');
        found("a FAULT", x, x.write(1, 1, 0), -3, 0);
    }

    /** "from item 0 on, as many as there are items: how many". */
    private static void writeItems() {
        DrumSlits x = Check.strips("0000;1111;2222", "");
        x.sheet(0, BYTES, 0);
        check.same("no items", x.write(0, 3, 0), 0);
        x.sheet(0, BYTES, 1);
        check.same("one item", x.write(0, 3, 0), 1);
        x.sheet(0, BYTES, 60);
        x.put(0, BYTES, 0, 9);
        check.same("sixty items", x.write(0, 3, 0), 60);
        check.same("LOOK 0", x.get(0, BYTES, 0), 0);
        check.same("LOOK 2", x.get(0, BYTES, 2), 2);
        check.same("LOOK 3", x.get(0, BYTES, 3), 0);
        check.same("LOOK 59", x.get(0, BYTES, 59), 2);
    }

    /** "(.. by write(), too)": it comes to rows of each FORM, and the row keeps it. */
    private static void writeForms() {
        for (int form = 0; form <= 2; form++) {
            DrumSlits x = Check.strips("0000;1111;2222;3333;4444;5555;6666;7777;8888;9999;0101;1010", "");
            x.sheet(2, form, 13);
            check.same("FORM " + form, x.write(0, 12, 2), 13);
            check.same("FORM " + form + ": item 11", x.get(2, form, 11), 11);
            check.same("FORM " + form + ": item 12", x.get(2, form, 12), 0);
        }
    }
}
