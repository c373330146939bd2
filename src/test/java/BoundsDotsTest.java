/** Boundary cases of Terms 4 and of promises 16 to 21: a test for each sentence. */
public final class BoundsDotsTest {
    private static final Check check = new Check("BoundsDotsTest");
    private static final int LEAST = Integer.MIN_VALUE;
    private static final int MOST = Integer.MAX_VALUE;

    public static void main(String[] args) {
        terms();
        dotLook();
        dotPlace();
        dotForm();
        dotFull();
        readLook();
        readSheet();
        readLost();
        readUpToARefusal();
        readUpToFull();
        readNoItems();
        readForms();
        blinking();
        joinWhat();
        joinOfNone();
        joinAnew();
        nets();
        joinedLook();
        joinedDot();
        joinedNone();
        check.end();
    }

    private static DrumSlits looks(int[] first, int[] second) {
        DrumSlits x = new DrumSlits();
        for (int spot : first) {
            x.dot(0, spot, 0);
        }
        for (int spot : second) {
            x.dot(1, spot, 0);
        }
        return x;
    }

    private static int[] spots(int... spots) {
        return spots;
    }

    private static void joins(String name, DrumSlits x, int sum, int rows, int split, int net) {
        check.same(name + ": sum", x.join(0), sum);
        check.same(name + ": rows", x.join(1), rows);
        check.same(name + ": SPLIT", x.join(2), split);
        check.same(name + ": NET", x.net(), net);
    }

    // ---- Terms 4

    private static void terms() {
        mostDots();
        shorterWay();
        roundTheEnd();
        halfRoundOfFewer();
        fewer();
        ofLikeMany();
        noTwoToOne();
        unlikeAtFirst();
        unlikeOfTwoForms();
        unlikeEnds();
        unlikeOrFar();
        leastRow();
        howManyRows();
        netEnds();
        split();
    }

    /** "DOTS of two LOOKS (0, 1), 6 at most each". */
    private static void mostDots() {
        for (int look = 0; look <= 1; look++) {
            DrumSlits x = new DrumSlits();
            for (int i = 0; i < 5; i++) {
                x.dot(look, 1, 0);
            }
            check.same("five", x.count(4 + look), 5);
            check.same("the sixth", x.dot(look, 1, 0), 5);
            check.same("the seventh", x.dot(look, 1, 0), -4);
            check.same("six", x.count(4 + look), 6);
            check.same("none of the other LOOK", x.count(5 - look), 0);
            check.same("the other's first", x.dot(1 - look, 1, 0), 0);
        }
    }

    /** "The way from one to another is the shorter one round: -29 to 30." */
    private static void shorterWay() {
        joins("29 on", looks(spots(0), spots(29)), 29, 1, 0, 29);
        joins("30 on", looks(spots(0), spots(30)), 30, 1, 0, 30);
        joins("31 on is 29 back", looks(spots(0), spots(31)), 29, 1, 0, -29);
        joins("29 back", looks(spots(29), spots(0)), 29, 1, 0, -29);
        joins("30 back is 30 on", looks(spots(30), spots(0)), 30, 1, 0, 30);
        joins("31 back is 29 on", looks(spots(31), spots(0)), 29, 1, 0, 29);
        joins("no way", looks(spots(59), spots(59)), 0, 1, 0, 0);
        joins("30 about the end", looks(spots(45), spots(15)), 30, 1, 0, 30);
    }

    /** "at a PLACE (0 to 59, round)". */
    private static void roundTheEnd() {
        joins("59 to 0", looks(spots(59), spots(0)), 1, 1, 0, 1);
        joins("0 to 59", looks(spots(0), spots(59)), 1, 1, 0, -1);
        joins("58 to 0", looks(spots(58), spots(0)), 2, 1, 0, 2);
        joins("0 to 1", looks(spots(0), spots(1)), 1, 1, 0, 1);
        joins("59 to 29", looks(spots(59), spots(29)), 30, 1, 0, 30);
        joins("59 to 28", looks(spots(59), spots(28)), 29, 1, 0, 29);
        joins("59 to 30", looks(spots(59), spots(30)), 29, 1, 0, -29);
    }

    /** "all ways from LOOK 0 to LOOK 1": half round is +30, whichever LOOK has fewer. */
    private static void halfRoundOfFewer() {
        joins("LOOK 1 has fewer", looks(spots(0, 0), spots(30)), 30, 2, 0, 30);
        joins("LOOK 0 has fewer", looks(spots(0), spots(30, 30)), 30, 2, 0, 30);
        joins("LOOK 1 has fewer, 29 back", looks(spots(0, 0), spots(31)), 29, 2, 0, -29);
    }

    /** "JOINED: each of those of the LOOK that has fewer .. is joined to one of the other". */
    private static void fewer() {
        DrumSlits x = looks(spots(10, 40), spots(41, 50, 11));
        joins("LOOK 0 has fewer", x, 2, 1, 0, 2);
        check.same("each of LOOK 0", x.joined(0, 0), 2);
        check.same("each of LOOK 0, the last", x.joined(0, 1), 0);
        check.same("one of LOOK 1 is left", x.joined(1, 1), -1);
        x = looks(spots(41, 50, 11), spots(10, 40));
        joins("LOOK 1 has fewer", x, 2, 1, 0, -2);
        check.same("each of LOOK 1", x.joined(1, 0), 2);
        check.same("each of LOOK 1, the last", x.joined(1, 1), 0);
        check.same("one of LOOK 0 is left", x.joined(0, 1), -1);
        x = looks(spots(41, 50, 11), spots(10, 40, 49));
        joins("of like many none is left", x, 3, 1, 0, -3);
        check.same("of like many the second", x.joined(0, 1), 2);
    }

    /** "(of like many: of LOOK 0)": the least row is that of LOOK 0, not of LOOK 1. */
    private static void ofLikeMany() {
        // On is the row 2, 0, 1 (of LOOK 1: 1, 2, 0), back the row 1, 2, 0 (of LOOK 1: 2, 0, 1).
        DrumSlits x = looks(spots(0, 20, 40), spots(30, 50, 10));
        joins("three and three", x, 30, 2, 1, -30);
        check.same("0 back", x.joined(0, 0), 1);
        check.same("1 back", x.joined(0, 1), 2);
        check.same("2 back", x.joined(0, 2), 0);
        check.same("of LOOK 1", x.joined(1, 0), 2);
        // One more, far from all, in LOOK 0: now LOOK 1 has fewer, and its row is the least.
        x = new DrumSlits();
        x.set(1, 60);
        for (int spot : spots(0, 20, 40)) {
            x.dot(0, spot, 0);
        }
        x.dot(0, 10, 1);
        for (int spot : spots(30, 50, 10)) {
            x.dot(1, spot, 0);
        }
        joins("four and three", x, 30, 2, 1, 30);
        check.same("of LOOK 1, on", x.joined(1, 0), 1);
    }

    /** "no two to one". */
    private static void noTwoToOne() {
        DrumSlits x = looks(spots(10, 10), spots(10, 40));
        joins("one must go far", x, 30, 2, 0, 30);
        check.same("the first stays", x.joined(0, 0), 0);
        check.same("the other goes", x.joined(0, 1), 1);
        joins("two for two", looks(spots(10, 10), spots(10, 10)), 0, 2, 0, 0);
        joins("two on one: one is left", looks(spots(10, 10), spots(10)), 0, 2, 0, 0);
    }

    private static DrumSlits pair(int way, int formBefore, int formAfter) {
        DrumSlits x = new DrumSlits();
        x.dot(0, 0, formBefore);
        x.dot(1, way, formAfter);
        return x;
    }

    /** "UNLIKE (.. 10 at first)". */
    private static void unlikeAtFirst() {
        check.same("of two FORMS", pair(3, 0, 1).join(0), 13);
        check.same("of one FORM", pair(3, 0, 0).join(0), 3);
    }

    /** "for each pair of two FORMS". */
    private static void unlikeOfTwoForms() {
        for (int before = 0; before <= 3; before++) {
            for (int after = 0; after <= 3; after++) {
                check.same("FORMS " + before + ", " + after, pair(0, before, after).join(0), before == after ? 0 : 10);
            }
        }
        DrumSlits x = pair(0, 0, 3);
        x.dot(0, 30, 1);
        x.dot(1, 30, 2);
        check.same("each of two pairs", x.join(0), 20);
        check.same("UNLIKE is no way", x.net(), 0);
    }

    /** "UNLIKE (0 to 60 ..)". */
    private static void unlikeEnds() {
        DrumSlits x = pair(30, 0, 1);
        x.set(1, 0);
        check.same("UNLIKE 0", x.join(0), 30);
        x.set(1, 60);
        check.same("UNLIKE 60", x.join(0), 90);
        x.set(1, 61);
        check.same("UNLIKE 61 is refused", x.join(0), 90);
        x.set(1, -1);
        check.same("UNLIKE -1 is refused", x.join(0), 90);
    }

    /** "such that, over all, the amounts of ways, and UNLIKE .. are together least". */
    private static void unlikeOrFar() {
        DrumSlits x = pair(0, 1, 2);
        x.dot(1, 10, 1);
        x.set(1, 9);
        joins("UNLIKE 9: near", x, 9, 1, 0, 0);
        x.set(1, 10);
        joins("UNLIKE 10: either", x, 10, 2, 1, 0);
        check.same("UNLIKE 10: the least row", x.joined(0, 0), 0);
        x.set(1, 11);
        joins("UNLIKE 11: far", x, 10, 1, 0, 10);
        check.same("UNLIKE 11: the other", x.joined(0, 0), 1);
    }

    /** "of like ones the least row (of the other's numbers, in the order of the fewer)". */
    private static void leastRow() {
        DrumSlits x = looks(spots(10), spots(11, 9));
        joins("on is the least row", x, 1, 2, 1, 1);
        joins("back is the least row", looks(spots(10), spots(9, 11)), 1, 2, 1, -1);
        joins("one is nearer", looks(spots(10), spots(8, 11)), 1, 1, 0, 1);
        x = looks(spots(11, 9), spots(10));
        joins("LOOK 1's row is the least", x, 1, 2, 1, -1);
        check.same("the first of LOOK 0", x.joined(0, 0), 0);
        check.same("the second of LOOK 0", x.joined(0, 1), -1);
        x = looks(spots(5, 5), spots(9, 5, 5, 5));
        joins("rows by their first number, then by the next", x, 0, 6, 0, 0);
        check.same("their first", x.joined(0, 0), 1);
        check.same("their next", x.joined(0, 1), 2);
    }

    /** "how many rows have it". */
    private static void howManyRows() {
        joins("one of one", looks(spots(1), spots(1)), 0, 1, 0, 0);
        joins("two rows", looks(spots(1), spots(1, 1)), 0, 2, 0, 0);
        joins("six of six", looks(spots(1, 1, 1, 1, 1, 1), spots(1, 1, 1, 1, 1, 1)), 0, 720, 0, 0);
        joins("five of six", looks(spots(1, 1, 1, 1, 1), spots(1, 1, 1, 1, 1, 1)), 0, 720, 0, 0);
        joins("six to one", looks(spots(1, 1, 1, 1, 1, 1), spots(1)), 0, 6, 0, 0);
        joins("six to one, one of them off", looks(spots(1, 1, 2, 1, 1, 1), spots(1)), 0, 5, 0, 0);
    }

    /** "NET: all ways .. together": the most and the least that there are. */
    private static void netEnds() {
        int[] six = spots(5, 5, 5, 5, 5, 5);
        joins("all half round", looks(six, spots(35, 35, 35, 35, 35, 35)), 180, 720, 0, 180);
        joins("all 29 back", looks(six, spots(36, 36, 36, 36, 36, 36)), 174, 720, 0, -174);
        joins("all 29 on", looks(six, spots(34, 34, 34, 34, 34, 34)), 174, 720, 0, 174);
        joins("on and back", looks(spots(0, 30), spots(1, 29)), 2, 1, 0, 0);
    }

    /** "SPLIT: whether two rows with that sum have another NET". */
    private static void split() {
        joins("one row", looks(spots(10), spots(8, 11)), 1, 1, 0, 1);
        joins("two rows of one NET", looks(spots(10), spots(11, 11)), 1, 2, 0, 1);
        joins("two rows of two NETS", looks(spots(10), spots(11, 9)), 1, 2, 1, 1);
        joins("two rows of one NET, crossed", looks(spots(10, 11), spots(12, 13)), 4, 2, 0, 4);
        joins("29 on or back", looks(spots(0), spots(29, 31)), 29, 2, 1, 29);
        joins("30 and 29", looks(spots(0), spots(30, 31)), 29, 1, 0, -29);
    }

    // ---- promise 16

    /** "A DOT more in a LOOK: its number. BAD": no such LOOK. */
    private static void dotLook() {
        DrumSlits x = new DrumSlits();
        check.same("LOOK -1", x.dot(-1, 0, 0), -2);
        check.same("LOOK 0", x.dot(0, 0, 0), 0);
        check.same("LOOK 0 again", x.dot(0, 0, 0), 1);
        check.same("LOOK 1", x.dot(1, 0, 0), 0);
        check.same("LOOK 2", x.dot(2, 0, 0), -2);
        check.same("LOOK, the least", x.dot(LEAST, 0, 0), -2);
        check.same("LOOK, the most", x.dot(MOST, 0, 0), -2);
    }

    /** "at a PLACE (0 to 59 ..)". */
    private static void dotPlace() {
        DrumSlits x = new DrumSlits();
        check.same("PLACE -1", x.dot(0, -1, 0), -2);
        check.same("PLACE 0", x.dot(0, 0, 0), 0);
        check.same("PLACE 59", x.dot(0, 59, 0), 1);
        check.same("PLACE 60", x.dot(0, 60, 0), -2);
        check.same("PLACE, the least", x.dot(0, LEAST, 0), -2);
        check.same("PLACE, the most", x.dot(0, MOST, 0), -2);
        check.same("two came", x.count(4), 2);
    }

    /** "with a FORM (0 to 3)". */
    private static void dotForm() {
        DrumSlits x = new DrumSlits();
        check.same("FORM -1", x.dot(1, 0, -1), -2);
        check.same("FORM 0", x.dot(1, 0, 0), 0);
        check.same("FORM 3", x.dot(1, 0, 3), 1);
        check.same("FORM 4", x.dot(1, 0, 4), -2);
        check.same("FORM, the least", x.dot(1, 0, LEAST), -2);
        check.same("FORM, the most", x.dot(1, 0, MOST), -2);
        check.same("two came", x.count(5), 2);
    }

    /** "FULL", behind BAD. */
    private static void dotFull() {
        DrumSlits x = looks(spots(1, 2, 3, 4, 5), spots());
        check.same("the sixth", x.dot(0, 6, 0), 5);
        check.same("the seventh", x.dot(0, 7, 0), -4);
        check.same("the seventh of PLACE 59, FORM 3", x.dot(0, 59, 3), -4);
        check.same("the seventh of PLACE 60", x.dot(0, 60, 0), -2);
        check.same("the seventh of FORM 4", x.dot(0, 7, 4), -2);
        check.same("a LOOK that is not FULL", x.dot(1, 7, 0), 0);
        x.blink(0);
        check.same("the first again", x.dot(0, 7, 0), 0);
    }

    // ---- promise 17

    /** "DOTS of a LOOK": 0 or 1. */
    private static void readLook() {
        DrumSlits x = new DrumSlits();
        Check.row(x, 0, 0, 7);
        check.same("LOOK -1", x.read(0, -1), -2);
        check.same("LOOK 0", x.read(0, 0), 1);
        check.same("LOOK 1", x.read(0, 1), 1);
        check.same("LOOK 2", x.read(0, 2), -2);
        check.same("one each", x.count(4) * 10 + x.count(5), 11);
        check.same("BAD LOOK ahead of NULL", x.read(1, 2), -2);
        check.same("BAD is no FINDING", x.count(8), 0);
    }

    /** "items of a SHEET": 0 to 3. */
    private static void readSheet() {
        DrumSlits x = new DrumSlits();
        Check.row(x, 0, 0, 7);
        Check.row(x, 3, 2, 7, 8);
        check.same("SHEET -1", x.read(-1, 0), -2);
        check.same("SHEET 0", x.read(0, 0), 1);
        check.same("SHEET 3", x.read(3, 0), 2);
        check.same("SHEET 4", x.read(4, 0), -2);
    }

    /** "BAD; NULL." */
    private static void readLost() {
        DrumSlits x = new DrumSlits();
        check.same("LOST", x.read(0, 0), -11);
        check.same("its number", x.count(8), 1);
        x.sheet(0, 0, 0);
        check.same("not LOST", x.read(0, 0), 0);
        x.lose(0);
        check.same("LOST again", x.read(0, 0), -11);
    }

    /** "one by one as dot() takes them, up to the first that it refuses: how many it took". */
    private static void readUpToARefusal() {
        DrumSlits x = new DrumSlits();
        Check.row(x, 0, 0, 59, 0, 60, 1);
        check.same("59 and 0, not 60", x.read(0, 0), 2);
        check.same("none behind it", x.count(4), 2);
        Check.row(x, 0, 0, 1, -1, 2);
        check.same("1, not -1", x.read(0, 0), 1);
        check.same("behind those that there are", x.count(4), 3);
        Check.row(x, 0, 0, 60, 1);
        check.same("none", x.read(0, 0), 0);
        Check.row(x, 0, 2, 1000000);
        check.same("none of ints", x.read(0, 0), 0);
        Check.row(x, 0, 0, 256 + 5);
        check.same("a byte of 261 is 5", x.read(0, 0), 1);
        check.same("a refusal of dot() is none of read()", x.count(8), 0);
    }

    /** "as dot() takes them": six at most. */
    private static void readUpToFull() {
        DrumSlits x = new DrumSlits();
        Check.row(x, 0, 1, 1, 2, 3, 4, 5, 6);
        Check.row(x, 1, 1, 1, 2, 3, 4, 5, 6, 7);
        check.same("six of six", x.read(0, 0), 6);
        check.same("six of seven", x.read(1, 1), 6);
        check.same("none of six more", x.read(0, 0), 0);
        x.blink(0);
        x.dot(0, 9, 0);
        check.same("five behind one", x.read(0, 0), 5);
        check.same("six", x.count(4), 6);
    }

    /** "items of a SHEET": of none, of one. */
    private static void readNoItems() {
        DrumSlits x = new DrumSlits();
        x.sheet(0, 0, 0);
        check.same("no items", x.read(0, 0), 0);
        check.same("no DOTS", x.count(4), 0);
        x.sheet(0, 0, 1);
        check.same("one item", x.read(0, 0), 1);
        check.same("one DOT", x.count(4), 1);
    }

    /** "DOTS of a LOOK (all of FORM 0)". */
    private static void readForms() {
        DrumSlits x = new DrumSlits();
        Check.row(x, 0, 0, 20);
        x.read(0, 0);
        x.dot(1, 20, 0);
        check.same("of FORM 0", x.join(0), 0);
        x.blink(1);
        x.dot(1, 20, 1);
        check.same("not of FORM 1", x.join(0), 10);
    }

    // ---- promise 18

    /** "A LOOK has no DOTS: how many it had. BAD." */
    private static void blinking() {
        DrumSlits x = looks(spots(1), spots(1, 2, 3, 4, 5, 6));
        check.same("LOOK -1", x.blink(-1), -2);
        check.same("LOOK 2", x.blink(2), -2);
        check.same("they stay", x.count(4) * 10 + x.count(5), 16);
        check.same("LOOK 0", x.blink(0), 1);
        check.same("LOOK 0 again", x.blink(0), 0);
        check.same("LOOK 1 stays", x.count(5), 6);
        check.same("LOOK 1", x.blink(1), 6);
        check.same("none", x.count(5), 0);
        check.same("no DOT 0", x.joined(1, 0), -2);
    }

    // ---- promise 19

    /** "JOINED: the sum (what = 0), how many rows (1), SPLIT (2; 1, 0). BAD." */
    private static void joinWhat() {
        DrumSlits x = looks(spots(10), spots(15, 5));
        check.same("join(-1)", x.join(-1), -2);
        check.same("join(0)", x.join(0), 5);
        check.same("join(1)", x.join(1), 2);
        check.same("join(2)", x.join(2), 1);
        check.same("join(3)", x.join(3), -2);
        check.same("join of the least", x.join(LEAST), -2);
        check.same("join of the most", x.join(MOST), -2);
        x.blink(1);
        x.dot(1, 5, 0);
        check.same("no SPLIT", x.join(2), 0);
    }

    /** Of no DOTS one row, that of none, has the sum 0. */
    private static void joinOfNone() {
        joins("none", looks(spots(), spots()), 0, 1, 0, 0);
        joins("none to six", looks(spots(), spots(1, 2, 3, 4, 5, 6)), 0, 1, 0, 0);
        joins("six to none", looks(spots(1, 2, 3, 4, 5, 6), spots()), 0, 1, 0, 0);
        joins("one to six", looks(spots(0), spots(1, 2, 3, 4, 5, 6)), 1, 1, 0, 1);
    }

    /** Fewer DOTS behind more: nothing of the greater sum, NET or SPLIT stays. */
    private static void joinAnew() {
        DrumSlits x = looks(spots(0, 20, 40), spots(10, 30, 50));
        joins("three", x, 30, 2, 1, 30);
        x.blink(1);
        joins("three to none", x, 0, 1, 0, 0);
        x.dot(1, 3, 0);
        joins("three to one", x, 3, 1, 0, 3);
        x.blink(0);
        joins("none to one", x, 0, 1, 0, 0);
        x.dot(0, 4, 0);
        joins("one to one", x, 1, 1, 0, -1);
    }

    // ---- promise 20

    /** "NET, as any number": a NET of -1 to -4 is one, and no refusal. */
    private static void nets() {
        for (int back = 0; back <= 5; back++) {
            check.same("NET by " + back + " back", looks(spots(20), spots(20 - back)).net(), -back);
        }
        check.same("NET by 11 back", looks(spots(20), spots(9)).net(), -11);
        check.same("NET of none", new DrumSlits().net(), 0);
    }

    // ---- promise 21

    /** "To which DOT of the other LOOK one is JOINED; .. BAD": no such LOOK. */
    private static void joinedLook() {
        DrumSlits x = looks(spots(1, 50), spots(50, 1));
        check.same("LOOK -1", x.joined(-1, 0), -2);
        check.same("LOOK 0", x.joined(0, 0), 1);
        check.same("LOOK 1", x.joined(1, 0), 1);
        check.same("LOOK 2", x.joined(2, 0), -2);
    }

    /** BAD: no such DOT. */
    private static void joinedDot() {
        DrumSlits x = looks(spots(1, 50), spots(50));
        check.same("DOT -1", x.joined(0, -1), -2);
        check.same("DOT 0", x.joined(0, 0), -1);
        check.same("DOT 1, the last", x.joined(0, 1), 0);
        check.same("DOT 2", x.joined(0, 2), -2);
        check.same("LOOK 1: DOT 0, the last", x.joined(1, 0), 1);
        check.same("LOOK 1: DOT 1", x.joined(1, 1), -2);
        check.same("DOT, the least", x.joined(0, LEAST), -2);
        check.same("DOT, the most", x.joined(0, MOST), -2);
        x.blink(0);
        check.same("no DOTS", x.joined(0, 0), -2);
        check.same("six are the most", looks(spots(1, 2, 3, 4, 5, 6), spots()).joined(0, 5), -1);
        check.same("a seventh", looks(spots(1, 2, 3, 4, 5, 6), spots()).joined(0, 6), -2);
    }

    /** "NONE": one that is left. */
    private static void joinedNone() {
        DrumSlits x = looks(spots(1), spots());
        check.same("to none", x.joined(0, 0), -1);
        x.dot(1, 31, 0);
        check.same("to the one", x.joined(0, 0), 0);
        x.dot(1, 2, 0);
        check.same("to the nearer", x.joined(0, 0), 1);
        check.same("the farther is left", x.joined(1, 0), -1);
        check.same("the nearer is not", x.joined(1, 1), 0);
    }
}
