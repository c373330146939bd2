/** Promises 1 to 8: a new object, STRIPS, FAULTS, PLACES, STEPS, GAP and UNLIKE. */
public final class StripsTest {
    private static final Check check = new Check("StripsTest");
    private static final String TWELVE =
        "0000;1111;2222;3333;4444;5555;6666;7777;8888;9999;0123;4567";

    public static void main(String[] args) {
        newObject();
        typing();
        wiping();
        faults();
        places();
        steps();
        wholes();
        settings();
        check.end();
    }

    private static void newObject() {
        DrumSlits x = new DrumSlits();
        for (int what = 0; what <= 6; what++) {
            check.same("new: count(" + what + ")", x.count(what), 0);
        }
        check.same("new: GAP", x.count(7), 3);
        check.same("new: no FINDING", x.count(8), 0);
        check.same("new: GAP by set", x.set(0, 3), 3);
        check.same("new: UNLIKE by set", x.set(1, 10), 10);
        for (int s = 0; s < 4; s++) {
            check.same("new: lose(" + s + ")", x.lose(s), Check.NULL);
        }
        check.same("new: line", x.line(0), -3);
        check.same("new: fault(0)", x.fault(0), -1);
        check.same("new: fault(1)", x.fault(1), -1);
    }

    private static void typing() {
        DrumSlits x = new DrumSlits();
        check.same("type strip -1", x.type(-1, 48), -2);
        check.same("type strip 2", x.type(2, 48), -2);
        check.same("type byte -1", x.type(0, -1), -2);
        check.same("type byte 256", x.type(0, 256), -2);
        check.same("refusals typed nothing", x.count(2), 0);
        check.same("type byte 0", x.type(0, 0), 1);
        check.same("type byte 255", x.type(0, 255), 2);
        for (int i = 3; i <= 80; i++) {
            check.same("type the " + i + ".", x.type(0, 48), i);
        }
        check.same("type the 81.", x.type(0, 48), -4);
        check.same("type a bad 81.", x.type(0, 256), -2);
        check.same("80 bytes stay", x.count(2), 80);
        check.same("the other strip is its own", x.type(1, 48), 1);
        check.same("80 bytes", x.wipe(0), 80);
        check.same("room again", x.type(0, 48), 1);
    }

    private static void wiping() {
        DrumSlits x = Check.strips("1234;5678", "12x");
        check.same("wipe(-1)", x.wipe(-1), -2);
        check.same("wipe(2)", x.wipe(2), -2);
        check.same("wipe(1), with a FAULT", x.wipe(1), 3);
        check.same("no FAULT then", x.fault(1), -1);
        check.same("wipe(1) again", x.wipe(1), 0);
        check.same("strip 0 stays", x.count(0), 2);
        check.same("wipe(0)", x.wipe(0), 9);
        check.same("no PICTURES", x.count(0), 0);
        check.same("no bytes", x.count(2), 0);
        check.same("no PLACE", x.place(0, 0, 0), -2);
    }

    private static void fault(String text, int due) {
        DrumSlits x = Check.strips("", text);
        check.same("fault of " + text, x.fault(1), due);
        int pictures = due == -1 && text.length() > 0 ? (text.length() + 1) / 5 : 0;
        check.same("pictures of " + text, x.count(1), pictures);
        check.same("bytes of " + text, x.count(3), text.length());
    }

    private static void faults() {
        fault("", -1);
        fault("1", 1);
        fault("12", 2);
        fault("123", 3);
        fault("1234", -1);
        fault("----", -1);
        fault("0-9-", -1);
        fault("1234;", 5);
        fault("12345", 4);
        fault("1234;5", 6);
        fault("1234;5678", -1);
        fault("1234;5678:", 9);
        fault(";", 0);
        fault("123;", 3);
        fault("1234;;", 5);
        fault("/234", 0);
        fault(":234", 0);
        fault("123x", 3);
        fault("12x4;56y8", 2);
        fault("1234 5678", 4);
        fault(TWELVE, -1);
        fault(TWELVE + ";", 60);
        fault(TWELVE + "0", 59);
        fault(TWELVE + ";1", 60);
        fault(TWELVE + ";x", 60);
        fault(TWELVE + ";8888", 60);
        fault(TWELVE + ";8888;9999;1234;5678", 60);
        DrumSlits x = Check.strips("12", "");
        check.same("fault(-1)", x.fault(-1), -2);
        check.same("fault(2)", x.fault(2), -2);
        check.same("each its own", x.fault(1), -1);
        x.type(0, '3');
        x.type(0, '4');
        check.same("ended by later bytes", x.fault(0), -1);
        x.type(0, '!');
        x.type(0, ';');
        check.same("never well again", x.fault(0), 4);
    }

    private static void places() {
        DrumSlits x = Check.strips("0-95;-1--", TWELVE);
        int[] due = {0, -1, 9, 5, -1, 1, -1, -1};
        for (int i = 0; i < due.length; i++) {
            check.same("place " + i, x.place(0, i / 4, i % 4), due[i]);
        }
        check.same("the twelfth", x.place(1, 11, 0), 4);
        check.same("the twelfth's end", x.place(1, 11, 3), 7);
        check.same("strip -1", x.place(-1, 0, 0), -2);
        check.same("strip 2", x.place(2, 0, 0), -2);
        check.same("picture -1", x.place(0, -1, 0), -2);
        check.same("picture 2", x.place(0, 2, 0), -2);
        check.same("picture 12", x.place(1, 12, 0), -2);
        check.same("part -1", x.place(0, 0, -1), -2);
        check.same("part 4", x.place(0, 0, 4), -2);
        x.type(0, ';');
        check.same("with a FAULT no PICTURES", x.place(0, 0, 0), -2);
        for (char c : "2222".toCharArray()) {
            x.type(0, c);
        }
        check.same("well again", x.place(0, 2, 3), 2);
        check.same("well again, the first", x.place(0, 0, 2), 9);
    }

    private static void steps() {
        DrumSlits x = Check.strips("0000;9012;-01-;--9-", "1234");
        check.same("0 to 1", x.step(0, 0, 1), 12);
        check.same("1 to 0", x.step(0, 1, 0), 12);
        check.same("0 to 0", x.step(0, 0, 0), 0);
        check.same("0 to 2, two GAPS", x.step(0, 0, 2), 7);
        check.same("2 to 0, two GAPS", x.step(0, 2, 0), 7);
        check.same("1 to 2", x.step(0, 1, 2), 6);
        check.same("2 to 3, one GAP, two by neither", x.step(0, 2, 3), 11);
        check.same("2 to 2 with what is not seen", x.step(0, 2, 2), 0);
        x.set(0, 0);
        check.same("2 to 3, GAP 0", x.step(0, 2, 3), 8);
        x.set(0, 9);
        check.same("3 to 2, GAP 9", x.step(0, 3, 2), 17);
        check.same("one alone", x.step(1, 0, 0), 0);
        check.same("strip -1", x.step(-1, 0, 0), -2);
        check.same("strip 2", x.step(2, 0, 0), -2);
        check.same("from -1", x.step(0, -1, 0), -2);
        check.same("from 4", x.step(0, 4, 0), -2);
        check.same("to -1", x.step(0, 0, -1), -2);
        check.same("to 4", x.step(0, 0, 4), -2);
        check.same("other strip's number", x.step(1, 0, 1), -2);
    }

    private static void wholes() {
        DrumSlits x = Check.strips("0000;9012;-01-;--9-", "1234");
        check.same("four round", x.whole(0), 12 + 6 + 11 + (3 + 3 + 9 + 3));
        check.same("of one alone", x.whole(1), 0);
        x.set(0, 0);
        check.same("four round, GAP 0", x.whole(0), 12 + 0 + 8 + 9);
        Check.retype(x, 1, "0000;1234");
        check.same("two, there and back", x.whole(1), 20);
        Check.retype(x, 1, "0000;1234;");
        check.same("with a FAULT", x.whole(1), 0);
        Check.retype(x, 1, "");
        check.same("empty", x.whole(1), 0);
        check.same("whole(-1)", x.whole(-1), -2);
        check.same("whole(2)", x.whole(2), -2);
        Check.retype(x, 1, TWELVE);
        check.same("twelve", x.whole(1), 9 * 4 + (9 + 8 + 7 + 6) + 16 + (4 + 5 + 6 + 7));
    }

    private static void settings() {
        DrumSlits x = new DrumSlits();
        check.same("GAP -1", x.set(0, -1), -2);
        check.same("GAP 10", x.set(0, 10), -2);
        check.same("GAP 9 was 3", x.set(0, 9), 3);
        check.same("GAP 0 was 9", x.set(0, 0), 9);
        check.same("count GAP", x.count(7), 0);
        check.same("UNLIKE -1", x.set(1, -1), -2);
        check.same("UNLIKE 61", x.set(1, 61), -2);
        check.same("UNLIKE 60 was 10", x.set(1, 60), 10);
        check.same("UNLIKE 0 was 60", x.set(1, 0), 60);
        check.same("UNLIKE 5 was 0", x.set(1, 5), 0);
        check.same("GAP was 0", x.set(0, 4), 0);
        check.same("set(-1)", x.set(-1, 3), -2);
        check.same("set(2)", x.set(2, 3), -2);
    }
}
