/** Boundary cases of the face, of Terms 1 (STRIPS, STEP, WHOLE) and of promises 1 to 8: a test for each sentence. */
public final class BoundsStripsTest {
    private static final Check check = new Check("BoundsStripsTest");
    private static final String ELEVEN = "1111;1112;1113;1114;1115;1116;1117;1118;1119;1120;1121";
    private static final String TWELVE = ELEVEN + ";1122";
    private static final int LEAST = Integer.MIN_VALUE;
    private static final int MOST = Integer.MAX_VALUE;

    public static void main(String[] args) {
        face();
        signs();
        faults();
        steps();
        newObject();
        typing();
        wiping();
        askingFaults();
        places();
        stepCalls();
        wholeCalls();
        settings();
        check.end();
    }

    // ---- the face

    private static void face() {
        lastCall();
        constants();
    }

    /** "An object is used for at most 512 calls after it has been made; what later calls answer is free." */
    private static void lastCall() {
        DrumSlits x = new DrumSlits();
        check.same("the first call", x.set(0, 1), 3);
        for (int call = 2; call <= 511; call++) {
            x.set(0, call % 10);
        }
        check.same("the 512th call", x.set(0, 0), 1);
        x.set(0, 5);
        check.same("the 513th call ended", 1, 1);
    }

    /** "public static final int NONE = -1, BAD = -2, NOT = -3, FULL = -4". */
    private static void constants() {
        check.same("NONE", DrumSlits.NONE, -1);
        check.same("BAD", DrumSlits.BAD, -2);
        check.same("NOT", DrumSlits.NOT, -3);
        check.same("FULL", DrumSlits.FULL, -4);
    }

    // ---- Terms 1: texts

    private static void signs() {
        mostBytes();
        mostPictures();
        firstPicture();
        between();
        fourSigns();
        parts();
        figures();
        notSeen();
        bytesAboveSigns();
    }

    /** The FAULT of a text, how many PICTURES it has then, and that its bytes stay. */
    private static void text(String text, int fault, int pictures) {
        DrumSlits x = Check.strips(text, "");
        check.same("fault of '" + text + "'", x.fault(0), fault);
        check.same("pictures of '" + text + "'", x.count(0), pictures);
        check.same("bytes of '" + text + "'", x.count(2), text.length());
        x = Check.strips("", text);
        check.same("fault of '" + text + "' on STRIP 1", x.fault(1), fault);
        check.same("pictures of '" + text + "' on STRIP 1", x.count(1), pictures);
        check.same("bytes of '" + text + "' on STRIP 1", x.count(3), text.length());
    }

    /** "STRIPS 0, 1 are texts of up to 80 bytes each". */
    private static void mostBytes() {
        for (int strip = 0; strip <= 1; strip++) {
            DrumSlits x = new DrumSlits();
            for (int i = 1; i <= 79; i++) {
                x.type(strip, '0');
            }
            check.same("79 bytes", x.count(2 + strip), 79);
            check.same("the 80th byte", x.type(strip, '0'), 80);
            check.same("the 81st byte", x.type(strip, '0'), -4);
            check.same("80 bytes", x.count(2 + strip), 80);
            check.same("none on the other STRIP", x.count(3 - strip), 0);
        }
    }

    /** "PICTURES (12 at most, ..". */
    private static void mostPictures() {
        text(ELEVEN, -1, 11);
        text(TWELVE, -1, 12);
        text(TWELVE + ";1123", 60, 0);
    }

    /** ".. 0 on)". */
    private static void firstPicture() {
        DrumSlits x = Check.strips("7654;1111", TWELVE);
        check.same("PICTURE -1", x.place(0, -1, 0), -2);
        check.same("PICTURE 0", x.place(0, 0, 0), 7);
        check.same("PICTURE 1, the last", x.place(0, 1, 0), 1);
        check.same("PICTURE 2", x.place(0, 2, 0), -2);
        check.same("PICTURE 11, the last", x.place(1, 11, 3), 2);
        check.same("PICTURE 12", x.place(1, 12, 3), -2);
    }

    /** ".. with ; between them". */
    private static void between() {
        text("1234;5678", -1, 2);
        text("1234:5678", 4, 0);
        text("1234<5678", 4, 0);
        text("12345678", 4, 0);
        text("1234-5678", 4, 0);
        text(";1234", 0, 0);
        text("1234;;5678", 5, 0);
    }

    /** "four signs each". */
    private static void fourSigns() {
        text("123", 3, 0);
        text("1234", -1, 1);
        text("12345", 4, 0);
        text("123;5678", 3, 0);
        text("1234;567", 8, 0);
        text("1234;56789", 9, 0);
    }

    /** "of PARTS 0 to 3". */
    private static void parts() {
        DrumSlits x = Check.strips("7654", "");
        check.same("PART -1", x.place(0, 0, -1), -2);
        check.same("PART 0", x.place(0, 0, 0), 7);
        check.same("PART 1", x.place(0, 0, 1), 6);
        check.same("PART 2", x.place(0, 0, 2), 5);
        check.same("PART 3", x.place(0, 0, 3), 4);
        check.same("PART 4", x.place(0, 0, 4), -2);
    }

    /** "a figure (its PLACE)". */
    private static void figures() {
        for (int part = 0; part < 4; part++) {
            String before = "1111".substring(0, part);
            String behind = "1111".substring(part + 1);
            text(before + "/" + behind, part, 0);
            text(before + "0" + behind, -1, 1);
            text(before + "9" + behind, -1, 1);
            text(before + ":" + behind, part, 0);
            check.same("PLACE 0", Check.strips(before + "0" + behind, "").place(0, 0, part), 0);
            check.same("PLACE 9", Check.strips(before + "9" + behind, "").place(0, 0, part), 9);
        }
    }

    /** "or - (it is not seen)". */
    private static void notSeen() {
        for (int part = 0; part < 4; part++) {
            String before = "1111".substring(0, part);
            String behind = "1111".substring(part + 1);
            text(before + "," + behind, part, 0);
            text(before + "-" + behind, -1, 1);
            text(before + "." + behind, part, 0);
            check.same("not seen", Check.strips(before + "-" + behind, "").place(0, 0, part), -1);
        }
    }

    /** A byte is 0 to 255: one of 128 on is no figure, though its lowest bits are those of one. */
    private static void bytesAboveSigns() {
        DrumSlits x = new DrumSlits();
        x.type(0, '0' + 128);
        check.same("byte 176", x.fault(0), 0);
        x.wipe(0);
        x.type(0, '0');
        check.same("byte 48", x.fault(0), 1);
        x.wipe(0);
        x.type(0, 0);
        check.same("byte 0", x.fault(0), 0);
        x.wipe(0);
        x.type(0, 255);
        check.same("byte 255", x.fault(0), 0);
    }

    // ---- Terms 1: FAULT

    private static void faults() {
        firstWrong();
        emptyText();
        notEnded();
        thirteenth();
        wellAgain();
        asIfEmpty();
    }

    /** "The FAULT is the place of the first byte with which it cannot go on". */
    private static void firstWrong() {
        text("x234", 0, 0);
        text("1x3y", 1, 0);
        text("123y", 3, 0);
        text("1234", -1, 1);
        text("1234x6y8", 4, 0);
        text("1234;x6y8", 5, 0);
        text("1234;567y", 8, 0);
        text("1234;5678", -1, 2);
        text("12x", 2, 0);
    }

    /** "(an empty text is well: none". */
    private static void emptyText() {
        text("", -1, 0);
        text("1", 1, 0);
        DrumSlits x = Check.strips("x", "");
        x.wipe(0);
        check.same("wiped empty", x.fault(0), -1);
    }

    /** "of one that is not ended, its end)". */
    private static void notEnded() {
        text("1", 1, 0);
        text("12", 2, 0);
        text("123", 3, 0);
        text("1234", -1, 1);
        text("1234;", 5, 0);
        text("1234;5", 6, 0);
        text("1234;567", 8, 0);
        text("1234;5678", -1, 2);
        text(ELEVEN + ";", 55, 0);
        text(ELEVEN + ";112", 58, 0);
    }

    /** "or of the first byte of a thirteenth". */
    private static void thirteenth() {
        text(TWELVE, -1, 12);
        text(TWELVE + "1", 59, 0);
        text(TWELVE + ";", 60, 0);
        text(TWELVE + ";1", 60, 0);
        text(TWELVE + ";-", 60, 0);
        text(TWELVE + ";x", 60, 0);
        text(TWELVE + ";11", 60, 0);
        text(TWELVE + ";1123;1124;1125;1126;", 60, 0);
        text(ELEVEN + ";x", 55, 0);
    }

    /** A FAULT is of the text as it stands: one that is ended by a later byte is well. */
    private static void wellAgain() {
        DrumSlits x = Check.strips("123", "");
        check.same("not ended", x.fault(0), 3);
        x.type(0, '4');
        check.same("ended", x.fault(0), -1);
        check.same("one PICTURE", x.count(0), 1);
        x.type(0, ';');
        check.same("not ended again", x.fault(0), 5);
        check.same("no PICTURE", x.count(0), 0);
    }

    /** "With a FAULT a STRIP is as if it was empty." */
    private static void asIfEmpty() {
        asIfEmpty("", true);
        asIfEmpty("1234", false);
        asIfEmpty("1234;", true);
        asIfEmpty("1234;9999", false);
        asIfEmpty("1234;999x", true);
        asIfEmpty(TWELVE.substring(0, 39), false);
        asIfEmpty(TWELVE.substring(0, 40), true);
    }

    private static void asIfEmpty(String text, boolean empty) {
        DrumSlits x = Check.strips(text, "");
        x.sheet(0, 0, 1);
        String name = "'" + text + "' ";
        check.same(name + "count(0)", x.count(0) == 0 ? 1 : 0, empty ? 1 : 0);
        check.same(name + "place()", x.place(0, 0, 0), empty ? -2 : 1);
        check.same(name + "step()", x.step(0, 0, 0), empty ? -2 : 0);
        check.same(name + "whole()", x.whole(0) == 0 ? 1 : 0, empty || text.length() == 4 ? 1 : 0);
        check.same(name + "seen()", x.seen(0, 1, 0), empty ? -3 : 0);
        check.same(name + "order()", x.order(0, 0), empty ? -3 : 0);
        check.same(name + "orders()", x.orders(0) == -3 ? 1 : 0, empty ? 1 : 0);
        check.same(name + "missing()", x.missing(0, 0) == -3 ? 1 : 0, empty ? 1 : 0);
        check.same(name + "half()", x.half(0, 0, 0) == -2 ? 1 : 0, empty ? 1 : 0);
        check.same(name + "few()", x.few(0, 60), empty ? -3 : 1);
        check.same(name + "write()", x.write(0, 1, 0), empty ? -3 : 1);
    }

    // ---- Terms 1: STEP, WHOLE

    private static void steps() {
        bothHave();
        oneAlone();
        gapBounds();
        lastToFirst();
        wholeOfOne();
    }

    private static int stepOf(String text) {
        return Check.strips(text, "").step(0, 0, 1);
    }

    /** "STEP from one PICTURE to another: over PARTS that both have the amounts by which PLACES differ". */
    private static void bothHave() {
        check.same("no difference", stepOf("5555;5555"), 0);
        check.same("one on", stepOf("5555;6555"), 1);
        check.same("one back", stepOf("5555;4555"), 1);
        check.same("one back in the last PART", stepOf("5555;5554"), 1);
        check.same("0 to 9", stepOf("0000;0900"), 9);
        check.same("9 to 0", stepOf("0090;0000"), 9);
        check.same("on and back do not lift each other", stepOf("5555;6455"), 2);
        check.same("the farthest", stepOf("0000;9999"), 36);
        check.same("the farthest back", stepOf("9999;0000"), 36);
    }

    /** "for each that one of both alone has GAP .. together". */
    private static void oneAlone() {
        check.same("both have it", stepOf("0000;0000"), 0);
        check.same("the first alone", stepOf("0000;-000"), 3);
        check.same("the other alone", stepOf("000-;0000"), 3);
        check.same("neither has it", stepOf("0-00;0-00"), 0);
        check.same("PLACE 0 is one that it has", stepOf("----;0---"), 3);
        check.same("each of two", stepOf("0-00;-000"), 6);
        check.same("all four", stepOf("----;9999"), 12);
        check.same("none of four", stepOf("----;----"), 0);
        check.same("with a difference together", stepOf("0000;9-00"), 12);
    }

    /** "GAP (0 to 9; 3 at first)". */
    private static void gapBounds() {
        DrumSlits x = Check.strips("0000;-000", "");
        check.same("at first", x.step(0, 0, 1), 3);
        check.same("GAP -1", x.set(0, -1), -2);
        check.same("GAP 10", x.set(0, 10), -2);
        check.same("3 still", x.step(0, 0, 1), 3);
        check.same("GAP 0", x.set(0, 0), 3);
        check.same("by 0", x.step(0, 0, 1), 0);
        check.same("GAP 9", x.set(0, 9), 0);
        check.same("by 9", x.step(0, 0, 1), 9);
        check.same("by 9, back", x.step(0, 1, 0), 9);
    }

    /** "WHOLE: all STEPS round the STRIP (from the last to the first, too; ..". */
    private static void lastToFirst() {
        check.same("two: there and back", Check.strips("0000;1000", "").whole(0), 2);
        check.same("three: 1, 2 and 3 back", Check.strips("0000;1000;3000", "").whole(0), 6);
        check.same("back alone: by 9", Check.strips("0000;0000;0009", "").whole(0), 18);
        check.same("none at all", Check.strips("0000;0000;0000", "").whole(0), 0);
        // 1111 to 1119 by ones, 10 on to 1120, to 1122 by ones, 2 back to the first.
        check.same("twelve", Check.strips(TWELVE, "").whole(0), 8 + 10 + 2 + 2);
    }

    /** "of one alone 0)". */
    private static void wholeOfOne() {
        check.same("one alone", Check.strips("0909", "").whole(0), 0);
        check.same("one alone, not seen", Check.strips("0-0-", "").whole(0), 0);
        check.same("two", Check.strips("0909;0908", "").whole(0), 2);
        check.same("none", Check.strips("", "").whole(0), 0);
    }

    // ---- promise 1

    /** "Empty STRIPS, no DOTS, no TRIES; all SHEETS are LOST." */
    private static void newObject() {
        DrumSlits x = new DrumSlits();
        for (int what = 0; what <= 6; what++) {
            check.same("new: count(" + what + ")", x.count(what), 0);
        }
        check.same("new: count(8)", x.count(8), 0);
        for (int strip = 0; strip <= 1; strip++) {
            check.same("new: seen()", x.seen(strip, 1, 0), -3);
            check.same("new: wipe()", x.wipe(strip), 0);
        }
        check.same("new: joined(0, 0)", x.joined(0, 0), -2);
        check.same("new: joined(1, 0)", x.joined(1, 0), -2);
        check.same("new: line(0)", x.line(0), -3);
        for (int s = 0; s <= 3; s++) {
            check.same("new: SHEET " + s, x.lose(s), Check.NULL);
        }
        x.sheet(3, 0, 0);
        check.same("no longer new: SHEET 3", x.lose(3), 0);
        x.tries(1, 0, 0);
        check.same("no longer new: line(0)", x.line(0), 2);
        x.dot(1, 0, 0);
        check.same("no longer new: joined(1, 0)", x.joined(1, 0), -1);
    }

    // ---- promise 2

    private static void typing() {
        typeStrip();
        typeByte();
        typeFull();
    }

    /** "type .. behind a STRIP: how many. BAD": no such STRIP. */
    private static void typeStrip() {
        DrumSlits x = new DrumSlits();
        check.same("type STRIP -1", x.type(-1, '0'), -2);
        check.same("type STRIP 0", x.type(0, '0'), 1);
        check.same("type STRIP 0 again", x.type(0, '0'), 2);
        check.same("type STRIP 1", x.type(1, '0'), 1);
        check.same("type STRIP 2", x.type(2, '0'), -2);
        check.same("type STRIP, the least", x.type(LEAST, '0'), -2);
        check.same("type STRIP, the most", x.type(MOST, '0'), -2);
    }

    /** "A byte (0 to 255) comes". */
    private static void typeByte() {
        DrumSlits x = new DrumSlits();
        check.same("byte -1", x.type(0, -1), -2);
        check.same("byte 0", x.type(0, 0), 1);
        check.same("byte 255", x.type(0, 255), 2);
        check.same("byte 256", x.type(0, 256), -2);
        check.same("byte 304, in its lowest bits a 0", x.type(0, 304), -2);
        check.same("the least byte", x.type(0, LEAST), -2);
        check.same("the most byte", x.type(0, MOST), -2);
        check.same("two came", x.count(2), 2);
    }

    /** "FULL", behind BAD. */
    private static void typeFull() {
        DrumSlits x = Check.strips("", TWELVE + ";1123;1124;1125;1126;");
        check.same("80 bytes", x.count(3), 80);
        check.same("the 81st", x.type(1, '1'), -4);
        check.same("byte 255 as the 81st", x.type(1, 255), -4);
        check.same("byte 256 as the 81st", x.type(1, 256), -2);
        check.same("byte -1 as the 81st", x.type(1, -1), -2);
        check.same("the other STRIP is not FULL", x.type(0, '1'), 1);
        check.same("wiped", x.wipe(1), 80);
        check.same("the first again", x.type(1, '1'), 1);
    }

    // ---- promise 3

    /** "A STRIP is empty: how many bytes it had. BAD." */
    private static void wiping() {
        DrumSlits x = Check.strips("1234", "1");
        check.same("wipe STRIP -1", x.wipe(-1), -2);
        check.same("wipe STRIP 2", x.wipe(2), -2);
        check.same("4 bytes stay", x.count(2), 4);
        check.same("1 byte stays", x.count(3), 1);
        check.same("wipe STRIP 1", x.wipe(1), 1);
        check.same("wipe STRIP 1, empty", x.wipe(1), 0);
        check.same("STRIP 0 stays", x.count(2), 4);
        check.same("wipe STRIP 0", x.wipe(0), 4);
        check.same("no bytes", x.count(2), 0);
        check.same("no PICTURES", x.count(0), 0);
        x.type(0, '9');
        check.same("nothing of before comes back", x.fault(0), 1);
    }

    // ---- promise 4

    /** "The FAULT; NONE. BAD." */
    private static void askingFaults() {
        DrumSlits x = Check.strips("1", "");
        check.same("fault STRIP -1", x.fault(-1), -2);
        check.same("fault STRIP 0", x.fault(0), 1);
        check.same("fault STRIP 1", x.fault(1), -1);
        check.same("fault STRIP 2", x.fault(2), -2);
        x.wipe(0);
        x.type(0, ';');
        check.same("a FAULT at 0 is not NONE", x.fault(0), 0);
    }

    // ---- promise 5

    /** "The PLACE of a PART of a PICTURE; NONE: it is not seen. BAD." */
    private static void places() {
        DrumSlits x = Check.strips("0-99", "8888;7777");
        check.same("place STRIP -1", x.place(-1, 0, 0), -2);
        check.same("place STRIP 0", x.place(0, 0, 0), 0);
        check.same("place STRIP 1", x.place(1, 0, 0), 8);
        check.same("place STRIP 2", x.place(2, 0, 0), -2);
        check.same("PLACE 0 is seen", x.place(0, 0, 0), 0);
        check.same("- is not seen", x.place(0, 0, 1), -1);
        check.same("PLACE 9 is seen", x.place(0, 0, 2), 9);
        check.same("of one PICTURE the second", x.place(0, 1, 0), -2);
        check.same("of two PICTURES the second", x.place(1, 1, 0), 7);
        check.same("of two PICTURES the third", x.place(1, 2, 0), -2);
        check.same("PICTURE, the least", x.place(1, LEAST, 0), -2);
        check.same("PICTURE, the most", x.place(1, MOST, 0), -2);
        check.same("PART 4 is not the next PICTURE", x.place(1, 0, 4), -2);
        check.same("PART -1 is not the PICTURE before", x.place(1, 1, -1), -2);
        check.same("PART, the least", x.place(1, 0, LEAST), -2);
        check.same("PART, the most", x.place(1, 0, MOST), -2);
    }

    // ---- promise 6

    /** "STEP. BAD." */
    private static void stepCalls() {
        DrumSlits x = Check.strips("0000;1000", "0000;1000;3000");
        check.same("step STRIP -1", x.step(-1, 0, 1), -2);
        check.same("step STRIP 0", x.step(0, 0, 1), 1);
        check.same("step STRIP 1", x.step(1, 0, 2), 3);
        check.same("step STRIP 2", x.step(2, 0, 1), -2);
        check.same("from -1", x.step(0, -1, 1), -2);
        check.same("from the last", x.step(0, 1, 0), 1);
        check.same("from beyond", x.step(0, 2, 0), -2);
        check.same("to -1", x.step(0, 0, -1), -2);
        check.same("to the last", x.step(0, 0, 1), 1);
        check.same("to beyond", x.step(0, 0, 2), -2);
        check.same("to itself", x.step(1, 2, 2), 0);
        check.same("beyond to itself", x.step(1, 3, 3), -2);
        x.wipe(0);
        check.same("of an empty STRIP", x.step(0, 0, 0), -2);
    }

    // ---- promise 7

    /** "WHOLE. BAD." */
    private static void wholeCalls() {
        DrumSlits x = Check.strips("0000;1000", "0000;1000;3000");
        check.same("whole STRIP -1", x.whole(-1), -2);
        check.same("whole STRIP 0", x.whole(0), 2);
        check.same("whole STRIP 1", x.whole(1), 6);
        check.same("whole STRIP 2", x.whole(2), -2);
    }

    // ---- promise 8

    private static void settings() {
        setWhat();
        setGap();
        setUnlike();
    }

    /** "GAP (what = 0), UNLIKE (1): what it was. BAD": no such thing. */
    private static void setWhat() {
        DrumSlits x = new DrumSlits();
        check.same("set(-1, ..)", x.set(-1, 5), -2);
        check.same("set(0, ..)", x.set(0, 5), 3);
        check.same("set(1, ..)", x.set(1, 5), 10);
        check.same("set(2, ..)", x.set(2, 5), -2);
        check.same("GAP was 5", x.set(0, 5), 5);
        check.same("UNLIKE was 5", x.set(1, 5), 5);
    }

    /** "GAP (0 to 9; 3 at first)", by set(). */
    private static void setGap() {
        DrumSlits x = new DrumSlits();
        check.same("GAP -1", x.set(0, -1), -2);
        check.same("GAP 10", x.set(0, 10), -2);
        check.same("GAP, the least", x.set(0, LEAST), -2);
        check.same("GAP, the most", x.set(0, MOST), -2);
        check.same("GAP 0, it was 3", x.set(0, 0), 3);
        check.same("GAP 9, it was 0", x.set(0, 9), 0);
        check.same("GAP is 9", x.count(7), 9);
    }

    /** "UNLIKE (0 to 60; 10 at first)", by set(). */
    private static void setUnlike() {
        DrumSlits x = new DrumSlits();
        check.same("UNLIKE -1", x.set(1, -1), -2);
        check.same("UNLIKE 61", x.set(1, 61), -2);
        check.same("UNLIKE, the least", x.set(1, LEAST), -2);
        check.same("UNLIKE, the most", x.set(1, MOST), -2);
        check.same("UNLIKE 0, it was 10", x.set(1, 0), 10);
        check.same("UNLIKE 60, it was 0", x.set(1, 60), 0);
        check.same("UNLIKE was 60", x.set(1, 10), 60);
        check.same("GAP is as it was", x.count(7), 3);
    }
}
