/** Promises 16 to 21: DOTS, JOINED, how many rows, SPLIT, NET. */
public final class DotsTest {
    private static final Check check = new Check("DotsTest");

    public static void main(String[] args) {
        dots();
        reading();
        blinking();
        joining();
        alone();
        ways();
        forms();
        rowsAndSplits();
        wrongOnes();
        check.end();
    }

    private static void dots() {
        DrumSlits x = new DrumSlits();
        check.same("look -1", x.dot(-1, 0, 0), -2);
        check.same("look 2", x.dot(2, 0, 0), -2);
        check.same("place -1", x.dot(0, -1, 0), -2);
        check.same("place 60", x.dot(0, 60, 0), -2);
        check.same("form -1", x.dot(0, 0, -1), -2);
        check.same("form 4", x.dot(0, 0, 4), -2);
        check.same("refusals add nothing", x.count(4), 0);
        for (int i = 0; i < 6; i++) {
            check.same("dot " + i, x.dot(0, i == 0 ? 59 : 0, i == 0 ? 3 : 0), i);
        }
        check.same("the seventh", x.dot(0, 0, 0), -4);
        check.same("a bad seventh", x.dot(0, 60, 0), -2);
        check.same("six", x.count(4), 6);
        check.same("the other look is its own", x.dot(1, 0, 0), 0);
        check.same("one", x.count(5), 1);
    }

    private static void reading() {
        DrumSlits x = new DrumSlits();
        check.same("lost", x.read(0, 0), Check.NULL);
        check.same("lost, told", x.count(8), 1);
        check.same("sheet -1", x.read(-1, 0), -2);
        check.same("sheet 4", x.read(4, 0), -2);
        check.same("look -1", x.read(0, -1), -2);
        check.same("look 2", x.read(0, 2), -2);
        Check.row(x, 1, 0, 59, 0, -1, 5);
        check.same("up to a place below 0", x.read(1, 1), 2);
        check.same("behind those", x.read(1, 1), 2);
        check.same("four", x.count(5), 4);
        check.same("up to the sixth", x.read(1, 1), 2);
        check.same("full", x.read(1, 1), 0);
        check.same("six", x.count(5), 6);
        Check.row(x, 2, 2, 3, 60);
        check.same("up to 60", x.read(2, 0), 1);
        x.sheet(3, 1, 0);
        check.same("no items", x.read(3, 0), 0);
        x.blink(1);
        x.dot(1, 3, 0);
        check.same("read dots have FORM 0 and their PLACE", x.join(0), 0);
        check.same("FINDING of before stays", x.count(8), 1);
    }

    private static void blinking() {
        DrumSlits x = new DrumSlits();
        check.same("none", x.blink(0), 0);
        x.dot(0, 1, 0);
        x.dot(0, 2, 0);
        x.dot(1, 2, 0);
        check.same("look -1", x.blink(-1), -2);
        check.same("look 2", x.blink(2), -2);
        check.same("two", x.blink(0), 2);
        check.same("none left", x.count(4), 0);
        check.same("the other stays", x.count(5), 1);
        check.same("numbers from 0 again", x.dot(0, 7, 0), 0);
        check.same("one to one", x.join(0), 5);
    }

    private static DrumSlits looks(int[] first, int[] second) {
        DrumSlits x = new DrumSlits();
        for (int spot : first) {
            x.dot(0, spot, 0);
        }
        for (int spot : second) {
            x.dot(1, spot, 0);
        }
        return x;
    }

    private static void joins(DrumSlits x, String name, int sum, int rows, int split, int net) {
        check.same(name + ": sum", x.join(0), sum);
        check.same(name + ": rows", x.join(1), rows);
        check.same(name + ": SPLIT", x.join(2), split);
        check.same(name + ": NET", x.net(), net);
    }

    private static void joining() {
        DrumSlits x = looks(new int[] {10, 20, 30}, new int[] {31, 12});
        joins(x, "two of three", 3, 1, 0, 3);
        check.same("joined(0, 0)", x.joined(0, 0), 1);
        check.same("joined(0, 1)", x.joined(0, 1), -1);
        check.same("joined(0, 2)", x.joined(0, 2), 0);
        check.same("joined(1, 0)", x.joined(1, 0), 2);
        check.same("joined(1, 1)", x.joined(1, 1), 0);
        x = looks(new int[] {31, 12}, new int[] {10, 20, 30});
        joins(x, "two to three", 3, 1, 0, -3);
        check.same("turned joined(0, 0)", x.joined(0, 0), 2);
        check.same("turned joined(0, 1)", x.joined(0, 1), 0);
        check.same("turned joined(1, 1)", x.joined(1, 1), -1);
        joins(looks(new int[] {}, new int[] {}), "none", 0, 1, 0, 0);
        joins(looks(new int[] {}, new int[] {5, 6}), "none to two", 0, 1, 0, 0);
        joins(looks(new int[] {5, 6}, new int[] {}), "two to none", 0, 1, 0, 0);
        check.same("joined to none", looks(new int[] {5, 6}, new int[] {}).joined(0, 1), -1);
    }

    /** net() and joined() without a join() ahead of them, behind each change. */
    private static void alone() {
        check.same("NET alone", looks(new int[] {3}, new int[] {9}).net(), 6);
        DrumSlits x = looks(new int[] {3, 9}, new int[] {9});
        check.same("joined alone", x.joined(0, 1), 0);
        x.blink(1);
        x.dot(1, 2, 0);
        check.same("joined behind a change", x.joined(0, 1), -1);
        check.same("NET behind it", x.net(), -1);
        x.dot(1, 10, 0);
        check.same("NET behind one more", x.net(), 0);
    }

    private static void ways() {
        for (int from = 0; from < 60; from++) {
            for (int by = -29; by <= 30; by++) {
                DrumSlits x = looks(new int[] {from}, new int[] {(from + by + 60) % 60});
                joins(x, "from " + from + " by " + by, Math.abs(by), 1, 0, by);
            }
        }
        joins(looks(new int[] {0, 10}, new int[] {30}), "half round from fewer LOOK 1", 20, 1, 0, 20);
        joins(looks(new int[] {0, 0}, new int[] {30}), "half round is +30 from LOOK 0", 30, 2, 0, 30);
        joins(looks(new int[] {0}, new int[] {29, 31}), "29 either way", 29, 2, 1, 29);
        joins(looks(new int[] {0}, new int[] {31, 29}), "29 either way, the other first", 29, 2, 1, -29);
    }

    private static void forms() {
        DrumSlits x = new DrumSlits();
        x.dot(0, 0, 1);
        x.dot(0, 9, 2);
        x.dot(1, 0, 2);
        x.dot(1, 9, 1);
        joins(x, "by form: 18 is less than 20", 18, 1, 0, 0);
        check.same("by form, joined", x.joined(0, 0), 1);
        x.set(1, 9);
        joins(x, "by form or place alike", 18, 2, 0, 0);
        check.same("the least row", x.joined(0, 0), 0);
        x.set(1, 8);
        joins(x, "by place", 16, 1, 0, 0);
        x.set(1, 0);
        joins(x, "by place alone", 0, 1, 0, 0);
        x.set(1, 60);
        x.blink(1);
        x.dot(1, 3, 3);
        joins(x, "one unlike both", 63, 1, 0, 3);
    }

    private static void rowsAndSplits() {
        joins(looks(new int[] {0, 15, 30, 45}, new int[] {0, 15, 30, 45}), "as they were", 0, 1, 0, 0);
        DrumSlits x = looks(new int[] {0, 20, 40}, new int[] {10, 30, 50});
        joins(x, "on or back", 30, 2, 1, 30);
        check.same("on", x.joined(0, 2), 2);
        x = looks(new int[] {0, 20, 40}, new int[] {50, 10, 30});
        joins(x, "back or on", 30, 2, 1, -30);
        check.same("back", x.joined(0, 0), 0);
        joins(looks(new int[] {0, 0}, new int[] {5, 5}), "two rows of one NET", 10, 2, 0, 10);
        int[] same = {7, 7, 7, 7, 7, 7};
        x = looks(same, same);
        joins(x, "all rows of six", 0, 720, 0, 0);
        for (int dot = 0; dot < 6; dot++) {
            check.same("least of all rows " + dot, x.joined(0, dot), dot);
            check.same("least of all rows, back " + dot, x.joined(1, dot), dot);
        }
        x = looks(new int[] {7, 7, 7, 7, 7, 7}, new int[] {7, 7, 7});
        joins(x, "three of six", 0, 120, 0, 0);
        check.same("the fewer's row", x.joined(1, 2), 2);
        check.same("not joined", x.joined(0, 3), -1);
        x = looks(new int[] {10}, new int[] {5, 15});
        joins(x, "one between two", 5, 2, 1, -5);
        x = looks(new int[] {5, 15}, new int[] {10});
        joins(x, "two about one", 5, 2, 1, 5);
        check.same("the first of two", x.joined(1, 0), 0);
    }

    private static void wrongOnes() {
        DrumSlits x = looks(new int[] {1, 2}, new int[] {3});
        check.same("join(-1)", x.join(-1), -2);
        check.same("join(3)", x.join(3), -2);
        check.same("joined(-1, 0)", x.joined(-1, 0), -2);
        check.same("joined(2, 0)", x.joined(2, 0), -2);
        check.same("joined(0, -1)", x.joined(0, -1), -2);
        check.same("joined(0, 2)", x.joined(0, 2), -2);
        check.same("joined(1, 1)", x.joined(1, 1), -2);
    }
}
