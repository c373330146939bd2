import java.util.Arrays;

/** Slits in a drum: the promises stand in ../shared/DOC.md, and capital words in comments are its terms. */
public final class DrumSlits {
    public static final int NONE = -1, BAD = -2, NOT = -3, FULL = -4;

    private static final int LOST_SHEET = 1, NO_ITEM = 2, OTHER_FORM = 3, UNLIKE_FORMS = 4, BELOW_ZERO = 5;
    private static final int MOST_BYTES = 80, MOST_PICTURES = 12, PARTS = 4, SIGNS = 5, MOST_LOOSE = 8;
    private static final int MOST_ITEMS = 60, MOST_DOTS = 6, MOST_TRIES = 40, ROUND_PLACES = 60;
    private static final int MOST_SLITS = 24, MOST_SPOKES = 36, MOST_TURNS = 999, MOST_FLASHES = 99;
    private static final int MOST_LOOK = 999, MOST_WIDTH = 99, MOST_DRAWN = 999, MOST_SLIT_WIDTH = 20;
    private static final int MOST_GAP = 9, MOST_UNLIKE = 60, MOST_NEAR = 60;
    private static final int MOST_PACE = 60, MOST_BRIGHT = 9, MOST_FORM = 3;
    private static final int LEAST_INT = 1 << 31;
    private static final long LEAST_LONG = 1L << 63;

    private final Strip firstStrip;
    private final Strip secondStrip;
    private final Look firstLook;
    private final Look secondLook;
    private final Sheet[] sheets;
    private final Joining joining;
    private final LooseRow looseRow;
    private final Trials trials;
    private final Blade blade;
    private int gap;
    private int unlike;
    private int latestFinding;

    public DrumSlits() {
        firstStrip = new Strip();
        secondStrip = new Strip();
        firstLook = new Look();
        secondLook = new Look();
        sheets = new Sheet[] {new Sheet(), new Sheet(), new Sheet(), new Sheet()};
        joining = new Joining();
        looseRow = new LooseRow();
        trials = new Trials();
        blade = new Blade();
        gap = 3;
        unlike = 10;
    }

    // ---- strips

    public int type(int strip, int b) {
        Strip chosen = stripAt(strip);
        if (chosen == null || !within(b, 0, 255)) {
            return BAD;
        }
        return chosen.append(b);
    }

    public int wipe(int strip) {
        Strip chosen = stripAt(strip);
        return chosen == null ? BAD : chosen.clear();
    }

    public int fault(int strip) {
        Strip chosen = stripAt(strip);
        return chosen == null ? BAD : chosen.faultAt;
    }

    public int place(int strip, int picture, int part) {
        Strip chosen = stripAt(strip);
        if (chosen == null || !chosen.has(picture) || !within(part, 0, PARTS - 1)) {
            return BAD;
        }
        return chosen.placeAt(picture, part);
    }

    public int step(int strip, int from, int to) {
        Strip chosen = stripAt(strip);
        if (chosen == null || !chosen.has(from) || !chosen.has(to)) {
            return BAD;
        }
        return chosen.stepBetween(from, to, gap);
    }

    public int whole(int strip) {
        Strip chosen = stripAt(strip);
        return chosen == null ? BAD : chosen.stepsRound(gap);
    }

    public int set(int what, int v) {
        int before;
        if (what == 0 && within(v, 0, MOST_GAP)) {
            before = gap;
            gap = v;
        } else if (what == 1 && within(v, 0, MOST_UNLIKE)) {
            before = unlike;
            unlike = v;
        } else {
            before = BAD;
        }
        return before;
    }

    // ---- drums

    public int drum(int slits, int pictures, int what) {
        if (!Drum.stands(slits, pictures) || !within(what, 0, 1)) {
            return BAD;
        }
        return what == 0 ? Drum.advanceOf(slits, pictures) : Drum.seemingOf(slits, pictures);
    }

    public long drift(int slits, int pictures, int what) {
        if (!Drum.stands(slits, pictures) || !within(what, 0, 1)) {
            return asLong(BAD);
        }
        return Fraction.told(Drum.driftAbove(slits, pictures), slits, what);
    }

    public int seen(int strip, int slits, int k) {
        Strip chosen = stripAt(strip);
        if (chosen == null || !within(slits, 1, MOST_SLITS) || !within(k, NONE, MOST_LOOK)) {
            return BAD;
        }
        if (chosen.pictures == 0) {
            return NOT;
        }
        return k == NONE ? Drum.looksRound(slits, chosen.pictures) : Drum.pictureAt(slits, chosen.pictures, k);
    }

    public int numbers(int advance, int seeming, int i) {
        if (!within(advance, 0, MOST_SLITS) || !within(seeming, 0, 3) || i < NONE) {
            return BAD;
        }
        return Drum.pairs(advance, seeming, i);
    }

    // ---- wheels

    public long wheel(int spokes, int turns, int flashes, int what) {
        if (!Wheel.stands(spokes, turns, flashes) || !within(what, 0, 1)) {
            return asLong(BAD);
        }
        return Fraction.told(Wheel.seemsAbove(spokes, turns, flashes), Wheel.seemsBelow(flashes), what);
    }

    public int fits(int spokes, int turns, int flashes, int second, int i) {
        if (!Wheel.stands(spokes, turns, flashes) || !Wheel.isSecond(second) || i < NONE) {
            return BAD;
        }
        if (i == NONE) {
            return Wheel.howManyFit(spokes, turns, flashes, second, MOST_TURNS);
        }
        return Wheel.fitting(spokes, turns, flashes, second, i);
    }

    public int upTo(int spokes, int turns, int flashes, int second, int most) {
        if (!Wheel.stands(spokes, turns, flashes) || !Wheel.isSecond(second) || !within(most, 0, MOST_TURNS)) {
            return BAD;
        }
        return Wheel.howManyFit(spokes, turns, flashes, second, most);
    }

    // ---- dots

    public int dot(int look, int place, int form) {
        Look chosen = lookAt(look);
        return chosen == null ? BAD : chosen.add(place, form);
    }

    public int read(int s, int look) {
        Sheet sheet = sheetAt(s);
        Look chosen = lookAt(look);
        if (sheet == null || chosen == null) {
            return BAD;
        }
        if (sheet.lost) {
            return finding(LOST_SHEET);
        }
        int taken = 0;
        while (taken < sheet.size && chosen.add(sheet.itemAt(taken), 0) >= 0) {
            taken++;
        }
        return taken;
    }

    public int blink(int look) {
        Look chosen = lookAt(look);
        return chosen == null ? BAD : chosen.clear();
    }

    public int join(int what) {
        if (!within(what, 0, 2)) {
            return BAD;
        }
        joining.search(firstLook, secondLook, unlike);
        return what == 0 ? joining.sum() : what == 1 ? joining.howMany() : joining.split();
    }

    public int net() {
        joining.search(firstLook, secondLook, unlike);
        return joining.netOfRow;
    }

    public int joined(int look, int dot) {
        Look chosen = lookAt(look);
        if (chosen == null || !within(dot, 0, chosen.dots - 1)) {
            return BAD;
        }
        joining.search(firstLook, secondLook, unlike);
        return joining.partnerOf(chosen, dot);
    }

    // ---- widths, orders

    public long narrow(int w, int a, int b, int what) {
        if (!within(w, 1, MOST_WIDTH) || !isDrawing(a, b) || !within(what, 0, 1)) {
            return asLong(BAD);
        }
        return Fraction.told(w * b, a + b, what);
    }

    public int wide(int v, int a, int b) {
        if (!within(v, 0, MOST_WIDTH) || !isDrawing(a, b)) {
            return BAD;
        }
        for (int drawn = 1; drawn <= MOST_DRAWN; drawn++) {
            if (drawn * b >= v * (a + b)) {
                return drawn;
            }
        }
        return NONE;
    }

    public int slit(int light, int blur) {
        if (!within(light, 0, MOST_WIDTH) || !within(blur, 0, MOST_WIDTH)) {
            return BAD;
        }
        int best = 1;
        for (int width = 2; width <= MOST_SLIT_WIDTH; width++) {
            if (slitWorth(light, blur, width) > slitWorth(light, blur, best)) {
                best = width;
            }
        }
        return best;
    }

    public int order(int strip, int i) {
        Strip chosen = stripAt(strip);
        if (chosen == null || i < NONE) {
            return BAD;
        }
        int refusal = looseRefusal(chosen);
        if (refusal != 0) {
            return refusal;
        }
        if (i >= chosen.pictures) {
            return BAD;
        }
        looseRow.search(chosen, gap);
        return i == NONE ? looseRow.sum() : looseRow.pictureAt(i);
    }

    public int orders(int strip) {
        Strip chosen = stripAt(strip);
        if (chosen == null) {
            return BAD;
        }
        int refusal = looseRefusal(chosen);
        if (refusal != 0) {
            return refusal;
        }
        looseRow.search(chosen, gap);
        return looseRow.howMany();
    }

    public int missing(int strip, int what) {
        Strip chosen = stripAt(strip);
        if (chosen == null || !within(what, 0, 1)) {
            return BAD;
        }
        if (chosen.pictures == 0) {
            return NOT;
        }
        int picture = chosen.missingBehind(gap);
        if (what == 0) {
            return picture;
        }
        return picture == NONE ? 0 : chosen.lowering(picture, gap);
    }

    public int half(int strip, int picture, int part) {
        Strip chosen = stripAt(strip);
        if (chosen == null || !chosen.has(picture) || !within(part, 0, PARTS - 1)) {
            return BAD;
        }
        return chosen.halfAt(picture, part);
    }

    public int few(int strip, int t) {
        Strip chosen = stripAt(strip);
        if (chosen == null || !within(t, 0, MOST_NEAR)) {
            return BAD;
        }
        return chosen.pictures == 0 ? NOT : chosen.fewest(t, gap);
    }

    // ---- tries, blades

    public int tries(int pace, int bright, int one) {
        if (!within(pace, 1, MOST_PACE) || !within(bright, 0, MOST_BRIGHT) || !within(one, 0, 1)) {
            return BAD;
        }
        return trials.add(pace, bright, one);
    }

    public int wrong(int a, int b) {
        if (!within(a, 0, MOST_PACE) || !within(b, 0, MOST_BRIGHT)) {
            return BAD;
        }
        return trials.toldOtherwise(a, b);
    }

    public int line(int what) {
        if (!within(what, 0, 2)) {
            return BAD;
        }
        if (trials.tried == 0) {
            return NOT;
        }
        trials.search();
        return what == 0 ? trials.bestStart : what == 1 ? trials.bestSlope : trials.leastWrong;
    }

    public int bent(int s, int what) {
        Sheet sheet = sheetAt(s);
        if (sheet == null || !within(what, 0, 2)) {
            return BAD;
        }
        if (sheet.lost) {
            return finding(LOST_SHEET);
        }
        if (sheet.size == 0) {
            return NOT;
        }
        blade.search(sheet);
        return what == 0 ? blade.bestPace : what == 1 ? blade.bestStart : blade.leastSum;
    }

    // ---- sheets

    public int sheet(int s, int form, int n) {
        Sheet sheet = sheetAt(s);
        if (sheet == null || !Sheet.isForm(form) || n > MOST_ITEMS) {
            return BAD;
        }
        if (n < 0) {
            return finding(BELOW_ZERO);
        }
        sheet.renew(form, n);
        return n;
    }

    public int lose(int s) {
        Sheet sheet = sheetAt(s);
        if (sheet == null) {
            return BAD;
        }
        if (sheet.lost) {
            return finding(LOST_SHEET);
        }
        sheet.lost = true;
        return sheet.size;
    }

    public int put(int s, int form, int i, int v) {
        Sheet sheet = sheetAt(s);
        if (sheet == null || !Sheet.isForm(form)) {
            return BAD;
        }
        int number = sheet.findingAt(form, i);
        if (number != 0) {
            return finding(number);
        }
        sheet.store(i, v);
        return 1;
    }

    public int get(int s, int form, int i) {
        Sheet sheet = sheetAt(s);
        if (sheet == null || !Sheet.isForm(form)) {
            return LEAST_INT;
        }
        int number = sheet.findingAt(form, i);
        if (number != 0) {
            latestFinding = number;
            return LEAST_INT;
        }
        return sheet.itemAt(i);
    }

    public int copy(int s, int i, int t, int j, int n) {
        Sheet from = sheetAt(s);
        Sheet to = sheetAt(t);
        if (from == null || to == null) {
            return BAD;
        }
        if (from.lost || to.lost) {
            return finding(LOST_SHEET);
        }
        if (from.form != to.form) {
            return finding(UNLIKE_FORMS);
        }
        if (!from.holds(i, n) || !to.holds(j, n)) {
            return finding(NO_ITEM);
        }
        System.arraycopy(from.items, i, to.items, j, n);
        return 1;
    }

    public int write(int strip, int slits, int s) {
        Strip chosen = stripAt(strip);
        Sheet sheet = sheetAt(s);
        if (chosen == null || sheet == null || !within(slits, 1, MOST_SLITS)) {
            return BAD;
        }
        if (sheet.lost) {
            return finding(LOST_SHEET);
        }
        if (chosen.pictures == 0) {
            return NOT;
        }
        for (int i = 0; i < sheet.size; i++) {
            sheet.store(i, Drum.pictureAt(slits, chosen.pictures, i));
        }
        return sheet.size;
    }

    public int count(int what) {
        switch (what) {
            case 0:
                return firstStrip.pictures;
            case 1:
                return secondStrip.pictures;
            case 2:
                return firstStrip.length;
            case 3:
                return secondStrip.length;
            case 4:
                return firstLook.dots;
            case 5:
                return secondLook.dots;
            case 6:
                return trials.tried;
            case 7:
                return gap;
            case 8:
                return latestFinding;
            default:
                return BAD;
        }
    }

    public long digest() {
        long h = 17;
        for (int what = 0; what <= 7; what++) {
            h = mixed(h, count(what));
        }
        h = mixedStrip(h, 0);
        h = mixedStrip(h, 1);
        for (int what = 0; what <= 2; what++) {
            h = mixed(h, join(what));
        }
        h = mixed(h, net());
        h = mixedLook(h, 0);
        h = mixedLook(h, 1);
        h = mixed(h, numbers(1, 2, NONE));
        for (int what = 0; what <= 2; what++) {
            h = mixed(h, line(what));
        }
        return h;
    }

    private long mixedStrip(long start, int strip) {
        long h = mixed(start, fault(strip));
        h = mixed(h, whole(strip));
        h = mixed(h, seen(strip, 12, NONE));
        h = mixed(h, missing(strip, 0));
        h = mixed(h, missing(strip, 1));
        h = mixed(h, few(strip, 5));
        h = mixed(h, orders(strip));
        for (int picture = 0; picture < count(strip); picture++) {
            for (int part = 0; part < PARTS; part++) {
                h = mixed(h, place(strip, picture, part));
            }
        }
        return h;
    }

    private long mixedLook(long start, int look) {
        long h = start;
        for (int dot = 0; dot < count(4 + look); dot++) {
            h = mixed(h, joined(look, dot));
        }
        return h;
    }

    private static long mixed(long h, long told) {
        return 31 * h + told;
    }

    private static boolean within(int v, int least, int most) {
        return v >= least && v <= most;
    }

    private static long asLong(int refusal) {
        return LEAST_LONG - refusal;
    }

    private int finding(int number) {
        latestFinding = number;
        return -10 - number;
    }

    private Strip stripAt(int strip) {
        return strip == 0 ? firstStrip : strip == 1 ? secondStrip : null;
    }

    private Look lookAt(int look) {
        return look == 0 ? firstLook : look == 1 ? secondLook : null;
    }

    private Sheet sheetAt(int s) {
        return within(s, 0, sheets.length - 1) ? sheets[s] : null;
    }

    private static int looseRefusal(Strip strip) {
        return strip.pictures == 0 ? NOT : strip.pictures > MOST_LOOSE ? FULL : 0;
    }

    private static boolean isDrawing(int a, int b) {
        return within(a, 1, MOST_WIDTH) && within(b, 1, MOST_WIDTH);
    }

    private static int slitWorth(int light, int blur, int width) {
        return light * width - blur * width * width;
    }

    /** Functions over fractions whose lower number is above 0. */
    private static final class Fraction {
        static int told(int above, int below, int what) {
            int common = commonDivisor(Math.abs(above), below);
            if (common < 1) {
                return 0;
            }
            return what == 0 ? above / common : below / common;
        }

        static int commonDivisor(int a, int b) {
            int larger = a;
            int smaller = b;
            // Euclid's rows are short: 64 rounds are more than any two ints need.
            for (int round = 0; round < 64 && smaller != 0; round++) {
                int rest = larger % smaller;
                larger = smaller;
                smaller = rest;
            }
            return larger;
        }

        /** Of two whole numbers equally near, the lesser: so the half is cut just short. */
        static int nearest(int above, int below) {
            return below < 1 ? 0 : Math.floorDiv(2 * above + below - 1, 2 * below);
        }
    }

    private static final class Drum {
        static boolean stands(int slits, int pictures) {
            return within(slits, 1, MOST_SLITS) && within(pictures, 1, MOST_SLITS);
        }

        static int advanceOf(int slits, int pictures) {
            return Fraction.nearest(pictures, slits);
        }

        static int driftAbove(int slits, int pictures) {
            return pictures - advanceOf(slits, pictures) * slits;
        }

        static int seemingOf(int slits, int pictures) {
            int above = driftAbove(slits, pictures);
            if (above != 0) {
                return above > 0 ? 2 : 3;
            }
            return pictureAt(slits, pictures, 1) == 0 ? 0 : 1;
        }

        static int pictureAt(int slits, int pictures, int k) {
            return pictures < 1 ? 0 : k * advanceOf(slits, pictures) % pictures;
        }

        static int looksRound(int slits, int pictures) {
            int common = Fraction.commonDivisor(pictures, advanceOf(slits, pictures));
            return common < 1 ? 1 : pictures / common;
        }

        static int pairs(int advance, int seeming, int i) {
            int found = 0;
            for (int slits = 1; slits <= MOST_SLITS; slits++) {
                for (int pictures = 1; pictures <= MOST_SLITS; pictures++) {
                    if (advanceOf(slits, pictures) == advance && seemingOf(slits, pictures) == seeming) {
                        if (found == i) {
                            return 100 * slits + pictures;
                        }
                        found++;
                    }
                }
            }
            return i == NONE ? found : NONE;
        }
    }

    private static final class Wheel {
        static boolean stands(int spokes, int turns, int flashes) {
            return within(spokes, 1, MOST_SPOKES) && within(turns, 0, MOST_TURNS)
                && within(flashes, 1, MOST_FLASHES);
        }

        static boolean isSecond(int second) {
            return second == NONE || within(second, 1, MOST_FLASHES);
        }

        static int seemsBelow(int flashes) {
            return 60 * flashes;
        }

        static int seemsAbove(int spokes, int turns, int flashes) {
            int above = spokes * turns;
            int below = seemsBelow(flashes);
            return above - Fraction.nearest(above, below) * below;
        }

        static boolean alike(int spokes, int turns, int others, int flashes) {
            return seemsAbove(spokes, turns, flashes) == seemsAbove(spokes, others, flashes);
        }

        static boolean fit(int spokes, int turns, int others, int flashes, int second) {
            return alike(spokes, turns, others, flashes)
                && (second == NONE || alike(spokes, turns, others, second));
        }

        static int howManyFit(int spokes, int turns, int flashes, int second, int most) {
            int found = 0;
            for (int others = 0; others <= most && others <= MOST_TURNS; others++) {
                if (fit(spokes, turns, others, flashes, second)) {
                    found++;
                }
            }
            return found;
        }

        static int fitting(int spokes, int turns, int flashes, int second, int i) {
            int found = 0;
            for (int others = 0; others <= MOST_TURNS; others++) {
                if (fit(spokes, turns, others, flashes, second)) {
                    if (found == i) {
                        return others;
                    }
                    found++;
                }
            }
            return NONE;
        }
    }

    private static final class Strip {
        private final int[] bytes = new int[MOST_BYTES];
        private final int[] places = new int[MOST_PICTURES * PARTS];
        private final int[] near = new int[MOST_PICTURES];
        private int length;
        private int pictures;
        private int faultAt = NONE;

        int append(int b) {
            if (length < 0 || length >= bytes.length) {
                return FULL;
            }
            bytes[length] = b;
            length++;
            parse();
            return length;
        }

        int clear() {
            int had = length;
            length = 0;
            parse();
            return had;
        }

        private void parse() {
            faultAt = firstFault();
            pictures = faultAt == NONE ? (length + 1) / SIGNS : 0;
            for (int i = 0; i < pictures * PARTS && i < places.length; i++) {
                int at = i / PARTS * SIGNS + i % PARTS;
                int sign = at < bytes.length ? bytes[at] : '-';
                places[i] = sign == '-' ? NONE : sign - '0';
            }
        }

        private int firstFault() {
            for (int i = 0; i < length && i < bytes.length; i++) {
                if (i == MOST_PICTURES * SIGNS || !goesOn(i % SIGNS, bytes[i])) {
                    return i;
                }
            }
            boolean ended = length == 0 || length % SIGNS == PARTS;
            return ended ? NONE : length;
        }

        private static boolean goesOn(int inPicture, int sign) {
            if (inPicture == PARTS) {
                return sign == ';';
            }
            return sign == '-' || within(sign, '0', '9');
        }

        boolean has(int picture) {
            return within(picture, 0, pictures - 1);
        }

        int placeAt(int picture, int part) {
            if (picture < 0 || picture >= pictures || part < 0 || part >= PARTS) {
                return NONE;
            }
            int at = picture * PARTS + part;
            return at < places.length ? places[at] : NONE;
        }

        int stepBetween(int from, int to, int gap) {
            int sum = 0;
            for (int part = 0; part < PARTS; part++) {
                sum += partStep(placeAt(from, part), placeAt(to, part), gap);
            }
            return sum;
        }

        private static int partStep(int from, int to, int gap) {
            if (from == NONE || to == NONE) {
                return from == to ? 0 : gap;
            }
            return Math.abs(from - to);
        }

        private int behind(int picture) {
            return picture + 1 < pictures ? picture + 1 : 0;
        }

        int stepsRound(int gap) {
            int sum = 0;
            for (int picture = 0; picture < pictures; picture++) {
                sum += stepBetween(picture, behind(picture), gap);
            }
            return sum;
        }

        int halfAt(int picture, int part) {
            int from = placeAt(picture, part);
            int to = placeAt(behind(picture), part);
            if (from == NONE) {
                return to;
            }
            return to == NONE ? from : (from + to) / 2;
        }

        /** By how much the squares of all STEPS would be less with the HALF behind this PICTURE. */
        int lowering(int picture, int gap) {
            int next = behind(picture);
            int before = stepBetween(picture, next, gap);
            int there = 0;
            int onward = 0;
            for (int part = 0; part < PARTS; part++) {
                int middle = halfAt(picture, part);
                there += partStep(placeAt(picture, part), middle, gap);
                onward += partStep(middle, placeAt(next, part), gap);
            }
            return before * before - there * there - onward * onward;
        }

        int missingBehind(int gap) {
            int best = NONE;
            int most = 0;
            for (int picture = 0; picture < pictures; picture++) {
                int less = lowering(picture, gap);
                if (less > most) {
                    most = less;
                    best = picture;
                }
            }
            return best;
        }

        int fewest(int t, int gap) {
            findNear(t, gap);
            int all = (1 << pictures) - 1;
            int best = all;
            // Of as many PICTURES the least bits come first: only fewer ones may take their place.
            for (int chosen = 1; chosen < all; chosen++) {
                if (Integer.bitCount(chosen) < Integer.bitCount(best) && reaches(chosen)) {
                    best = chosen;
                }
            }
            return best;
        }

        private void findNear(int t, int gap) {
            for (int picture = 0; picture < pictures && picture < near.length; picture++) {
                near[picture] = 0;
                for (int other = 0; other < pictures; other++) {
                    if (stepBetween(picture, other, gap) <= t) {
                        near[picture] |= 1 << other;
                    }
                }
            }
        }

        private boolean reaches(int chosen) {
            for (int picture = 0; picture < pictures && picture < near.length; picture++) {
                if ((near[picture] & chosen) == 0) {
                    return false;
                }
            }
            return true;
        }
    }

    /** The search for ORDER: the least ways home from each PICTURE, for each set of those already laid. */
    private static final class LooseRow {
        private final int[] steps = new int[MOST_LOOSE * MOST_LOOSE];
        private final int[] least = new int[(1 << MOST_LOOSE) * MOST_LOOSE];
        private final int[] ways = new int[(1 << MOST_LOOSE) * MOST_LOOSE];
        private final int[] row = new int[MOST_LOOSE];
        private int pictures;

        void search(Strip strip, int gap) {
            pictures = Math.min(strip.pictures, MOST_LOOSE);
            for (int from = 0; from < pictures; from++) {
                for (int to = 0; to < pictures; to++) {
                    steps[from * MOST_LOOSE + to] = strip.stepBetween(from, to, gap);
                }
            }
            // PICTURE 0 lies first, so only sets with it are asked for: the odd ones.
            for (int laid = (1 << pictures) - 1; laid > 0; laid -= 2) {
                for (int last = 0; last < pictures; last++) {
                    if ((laid >> last & 1) == 1) {
                        settle(laid, last);
                    }
                }
            }
            layRow();
        }

        private void settle(int laid, int last) {
            int at = laid * MOST_LOOSE + last;
            boolean allLaid = laid == (1 << pictures) - 1;
            least[at] = allLaid ? steps[last * MOST_LOOSE] : 0;
            ways[at] = allLaid ? 1 : 0;
            for (int next = 0; next < pictures; next++) {
                if ((laid >> next & 1) == 0) {
                    int sum = sumBy(laid, last, next);
                    if (ways[at] == 0 || sum < least[at]) {
                        least[at] = sum;
                        ways[at] = 0;
                    }
                    if (sum == least[at]) {
                        ways[at] += ways[(laid | 1 << next) * MOST_LOOSE + next];
                    }
                }
            }
        }

        private int sumBy(int laid, int last, int next) {
            return steps[last * MOST_LOOSE + next] + least[(laid | 1 << next) * MOST_LOOSE + next];
        }

        private void layRow() {
            int laid = 1;
            int last = 0;
            row[0] = 0;
            for (int i = 1; i < pictures; i++) {
                int next = firstBest(laid, last);
                row[i] = next;
                laid |= 1 << next;
                last = next;
            }
        }

        private int firstBest(int laid, int last) {
            for (int next = 0; next < pictures; next++) {
                if ((laid >> next & 1) == 0 && sumBy(laid, last, next) == least[laid * MOST_LOOSE + last]) {
                    return next;
                }
            }
            return 0;
        }

        int sum() {
            return least[MOST_LOOSE];
        }

        int howMany() {
            return ways[MOST_LOOSE];
        }

        int pictureAt(int i) {
            return within(i, 0, row.length - 1) ? row[i] : BAD;
        }
    }

    private static final class Look {
        private final int[] spots = new int[MOST_DOTS];
        private final int[] forms = new int[MOST_DOTS];
        private int dots;

        int add(int spot, int form) {
            if (!within(spot, 0, ROUND_PLACES - 1) || !within(form, 0, MOST_FORM)) {
                return BAD;
            }
            if (dots < 0 || dots >= MOST_DOTS) {
                return FULL;
            }
            spots[dots] = spot;
            forms[dots] = form;
            dots++;
            return dots - 1;
        }

        int clear() {
            int had = dots;
            dots = 0;
            return had;
        }

        int wayTo(int dot, Look other, int otherDot) {
            if (!within(dot, 0, dots - 1) || !within(otherDot, 0, other.dots - 1)) {
                return 0;
            }
            return Math.floorMod(other.spots[otherDot] - spots[dot] + 29, ROUND_PLACES) - 29;
        }

        boolean sameForm(int dot, Look other, int otherDot) {
            return within(dot, 0, dots - 1) && within(otherDot, 0, other.dots - 1)
                && forms[dot] == other.forms[otherDot];
        }
    }

    /** The search for JOINED: what is left is settled for each set of those of the other LOOK already taken. */
    private static final class Joining {
        private static final int SETS = 1 << MOST_DOTS;

        private final int[] ways = new int[MOST_DOTS * MOST_DOTS];
        private final int[] costs = new int[MOST_DOTS * MOST_DOTS];
        private final int[] least = new int[SETS];
        private final int[] rows = new int[SETS];
        private final int[] lowNet = new int[SETS];
        private final int[] highNet = new int[SETS];
        private final int[] partners = new int[MOST_DOTS];
        private Look fewer;
        private int fewDots;
        private int manyDots;
        private int netOfRow;

        void search(Look before, Look after, int unlike) {
            boolean turned = after.dots < before.dots;
            fewer = turned ? after : before;
            fewDots = Math.min(Math.min(before.dots, after.dots), MOST_DOTS);
            manyDots = Math.min(Math.max(before.dots, after.dots), MOST_DOTS);
            for (int dot = 0; dot < fewDots; dot++) {
                for (int other = 0; other < manyDots; other++) {
                    int from = turned ? other : dot;
                    int to = turned ? dot : other;
                    int at = dot * MOST_DOTS + other;
                    // Half round is +30 from LOOK 0 to LOOK 1, whichever has fewer.
                    ways[at] = before.wayTo(from, after, to);
                    costs[at] = Math.abs(ways[at]) + (before.sameForm(from, after, to) ? 0 : unlike);
                }
            }
            for (int taken = (1 << manyDots) - 1; taken >= 0; taken--) {
                settle(taken);
            }
            joinRow();
        }

        private void settle(int taken) {
            int dot = Integer.bitCount(taken);
            least[taken] = 0;
            rows[taken] = dot == fewDots ? 1 : 0;
            lowNet[taken] = 0;
            highNet[taken] = 0;
            for (int other = 0; dot < fewDots && other < manyDots; other++) {
                if ((taken >> other & 1) == 0) {
                    weigh(taken, dot, other);
                }
            }
        }

        private void weigh(int taken, int dot, int other) {
            int then = taken | 1 << other;
            int at = dot * MOST_DOTS + other;
            int sum = costs[at] + least[then];
            int low = ways[at] + lowNet[then];
            int high = ways[at] + highNet[then];
            if (rows[taken] == 0 || sum < least[taken]) {
                least[taken] = sum;
                rows[taken] = rows[then];
                lowNet[taken] = low;
                highNet[taken] = high;
            } else if (sum == least[taken]) {
                rows[taken] += rows[then];
                lowNet[taken] = Math.min(lowNet[taken], low);
                highNet[taken] = Math.max(highNet[taken], high);
            }
        }

        private void joinRow() {
            int taken = 0;
            netOfRow = 0;
            for (int dot = 0; dot < fewDots; dot++) {
                int other = firstBest(taken, dot);
                partners[dot] = other;
                netOfRow += ways[dot * MOST_DOTS + other];
                taken |= 1 << other;
            }
        }

        private int firstBest(int taken, int dot) {
            for (int other = 0; other < manyDots; other++) {
                if ((taken >> other & 1) == 0
                    && costs[dot * MOST_DOTS + other] + least[taken | 1 << other] == least[taken]) {
                    return other;
                }
            }
            return 0;
        }

        int sum() {
            return least[0];
        }

        int howMany() {
            return rows[0];
        }

        int split() {
            return lowNet[0] == highNet[0] ? 0 : 1;
        }

        int partnerOf(Look look, int dot) {
            if (look == fewer) {
                return within(dot, 0, fewDots - 1) ? partners[dot] : NONE;
            }
            for (int fewDot = 0; fewDot < fewDots; fewDot++) {
                if (partners[fewDot] == dot) {
                    return fewDot;
                }
            }
            return NONE;
        }
    }

    private static final class Trials {
        private final int[] paces = new int[MOST_TRIES];
        private final int[] brights = new int[MOST_TRIES];
        private final int[] ones = new int[MOST_TRIES];
        private int tried;
        private int bestStart;
        private int bestSlope;
        private int leastWrong;

        int add(int pace, int bright, int one) {
            if (tried < 0 || tried >= MOST_TRIES) {
                return FULL;
            }
            paces[tried] = pace;
            brights[tried] = bright;
            ones[tried] = one;
            tried++;
            return tried;
        }

        int toldOtherwise(int start, int slope) {
            int found = 0;
            for (int i = 0; i < tried && i < MOST_TRIES; i++) {
                int told = paces[i] >= start + slope * brights[i] ? 1 : 0;
                if (told != ones[i]) {
                    found++;
                }
            }
            return found;
        }

        void search() {
            leastWrong = MOST_TRIES + 1;
            for (int start = 0; start <= MOST_PACE; start++) {
                for (int slope = 0; slope <= MOST_BRIGHT; slope++) {
                    int found = toldOtherwise(start, slope);
                    if (found < leastWrong) {
                        leastWrong = found;
                        bestStart = start;
                        bestSlope = slope;
                    }
                }
            }
        }
    }

    /** The search for BENT. */
    private static final class Blade {
        private final int[] rowsAt = new int[ROUND_PLACES];
        private int bestPace;
        private int bestStart;
        private int leastSum;

        void search(Sheet sheet) {
            leastSum = MOST_ITEMS * ROUND_PLACES;
            for (int pace = 0; pace < ROUND_PLACES; pace++) {
                unbend(sheet, pace);
                weighStarts(sheet.size, pace);
            }
        }

        /** How many rows tell each start, when the blade has this pace. */
        private void unbend(Sheet sheet, int pace) {
            Arrays.fill(rowsAt, 0);
            for (int y = 0; y < sheet.size; y++) {
                int seenAt = Math.floorMod(sheet.itemAt(y), ROUND_PLACES);
                rowsAt[Math.floorMod(seenAt - pace * y, ROUND_PLACES)]++;
            }
        }

        private void weighStarts(int rows, int pace) {
            int ahead = rowsAhead();
            int sum = sumFromZero();
            for (int start = 0; start < ROUND_PLACES; start++) {
                if (sum < leastSum) {
                    leastSum = sum;
                    bestPace = pace;
                    bestStart = start;
                }
                // One start on is one nearer to what lies 1 to 30 ahead, and one farther from all else.
                sum += rows - 2 * ahead;
                ahead += rowsAt[(start + 31) % ROUND_PLACES] - rowsAt[(start + 1) % ROUND_PLACES];
            }
        }

        private int rowsAhead() {
            int rows = 0;
            for (int way = 1; way <= ROUND_PLACES / 2; way++) {
                rows += rowsAt[way];
            }
            return rows;
        }

        private int sumFromZero() {
            int sum = 0;
            for (int way = 0; way < ROUND_PLACES; way++) {
                sum += rowsAt[way] * Math.min(way, ROUND_PLACES - way);
            }
            return sum;
        }
    }

    private static final class Sheet {
        private final int[] items = new int[MOST_ITEMS];
        private boolean lost = true;
        private int form;
        private int size;

        static boolean isForm(int form) {
            return within(form, 0, 2);
        }

        void renew(int newForm, int newSize) {
            lost = false;
            form = newForm;
            size = Math.min(newSize, MOST_ITEMS);
            Arrays.fill(items, 0);
        }

        /** Which FINDING is in the way of item i as of a FORM; 0 if none. */
        int findingAt(int asForm, int i) {
            if (lost) {
                return LOST_SHEET;
            }
            if (form != asForm) {
                return OTHER_FORM;
            }
            return within(i, 0, size - 1) ? 0 : NO_ITEM;
        }

        boolean holds(int start, int n) {
            return n >= 0 && n <= size && within(start, 0, size - n);
        }

        int itemAt(int i) {
            return within(i, 0, size - 1) ? items[i] : 0;
        }

        void store(int i, int v) {
            if (within(i, 0, size - 1)) {
                items[i] = form == 0 ? (byte) v : form == 1 ? (short) v : v;
            }
        }
    }
}
