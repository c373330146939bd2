import java.lang.reflect.Method;
import java.lang.reflect.Modifier;
import java.util.ArrayList;
import java.util.Arrays;
import java.util.HashMap;
import java.util.List;
import java.util.Map;

/**
 * The document told a second time, as plainly as can be (by trying everything, with nothing kept), and long runs
 * of calls in which the class has to answer as this telling does, each of them on one object.
 */
public final class ModelTest {
    private static final Check check = new Check("ModelTest");
    private static final int RUNS = 400, CALLS = 440;
    private static final String[] SIGNS = {"0", "-", "1", "9", "5", "2"};
    private static long seed = 20261119;

    public static void main(String[] args) throws Exception {
        Map<String, Method> face = methodsOf(DrumSlits.class);
        Map<String, Method> model = methodsOf(Model.class);
        check.same("calls that the model tells, of the face's " + face.keySet(), model.size(), face.size());
        for (int run = 0; run < RUNS; run++) {
            new Run(run, face, model).go();
        }
        check.end();
    }

    private static Map<String, Method> methodsOf(Class<?> told) {
        Map<String, Method> found = new HashMap<>();
        for (Method m : told.getDeclaredMethods()) {
            if (Modifier.isPublic(m.getModifiers())) {
                found.put(m.getName(), m);
            }
        }
        return found;
    }

    private static int next(int bound) {
        seed = seed * 6364136223846793005L + 1442695040888963407L;
        return (int) ((seed >>> 33) % bound);
    }

    /** What each call's numbers are: "least..most" for each; they go one beyond, and now and then far beyond. */
    private static final String[] CALLS_TO_MAKE = {
        "type 0..1 45..58", "fault 0..1", "place 0..1 0..11 0..3", "place 0..1 0..2 0..3",
        "step 0..1 0..5 0..5", "step 0..1 0..1 0..1",
        "whole 0..1", "set 0..1 0..9", "set 1..1 0..60", "drum 1..24 1..24 0..1", "drift 1..24 1..24 0..1",
        "seen 0..1 1..24 -1..999", "seen 0..1 1..24 -1..30", "numbers 0..24 0..3 -1..9", "numbers 0..3 0..3 -1..90",
        "wheel 1..36 0..999 1..99 0..1", "fits 1..36 0..999 1..99 -1..99 -1..3", "fits 1..36 0..999 1..3 -1..2 -1..20",
        "upTo 1..36 0..999 1..99 -1..99 0..999", "upTo 1..36 0..999 1..4 -1..3 0..999",
        "dot 0..1 0..59 0..3", "dot 0..1 0..59 0..1", "dot 0..1 0..3 0..3", "read 0..3 0..1", "blink 0..1",
        "join 0..2", "join 0..2", "net", "joined 0..1 0..5", "joined 0..1 0..2",
        "narrow 1..99 1..99 1..99 0..1", "wide 0..99 1..99 1..99", "wide 0..99 1..99 1..9", "slit 0..99 0..99",
        "slit 0..99 0..9", "order 0..1 -1..8", "orders 0..1", "missing 0..1 0..1", "half 0..1 0..11 0..3",
        "half 0..1 0..3 0..3", "few 0..1 0..60", "few 0..1 0..9", "tries 1..60 0..9 0..1", "tries 1..60 0..9 0..1",
        "tries 10..20 0..3 0..1", "wrong 0..60 0..9", "wrong 0..20 0..3", "line 0..2", "bent 0..3 0..2",
        "sheet 0..3 0..2 0..60", "sheet 0..3 0..2 0..6", "lose 0..3", "put 0..3 0..2 0..60 -200..200",
        "put 0..3 0..2 0..5 -40000..40000", "put 0..3 0..2 0..5 0..59", "get 0..3 0..2 0..60", "get 0..3 0..2 0..5",
        "copy 0..3 0..6 0..3 0..6 0..6", "copy 0..3 0..60 0..3 0..60 0..60", "copy 1..1 0..4 1..1 0..4 0..5",
        "write 0..1 1..24 0..3", "count 0..8", "count 8..8", "digest"};

    private static final class Run {
        private final int number;
        private final Map<String, Method> face;
        private final Map<String, Method> model;
        private final DrumSlits x = new DrumSlits();
        private final Model y = new Model();
        private final StringBuilder told = new StringBuilder();
        private int calls;

        Run(int number, Map<String, Method> face, Map<String, Method> model) {
            this.number = number;
            this.face = face;
            this.model = model;
        }

        void go() throws Exception {
            while (calls < CALLS) {
                int kind = next(60);
                if (kind < 2 || calls == 0) {
                    typePictures(next(2), 1 + next(next(3) == 0 ? 12 : 6));
                } else if (kind < 4) {
                    fillSheet(next(4));
                } else if (kind < 6) {
                    layDots(next(2), 1 + next(6));
                } else {
                    one(CALLS_TO_MAKE[next(CALLS_TO_MAKE.length)].split(" "));
                }
            }
            make("digest");
            make("count", 8);
        }

        private void typePictures(int strip, int pictures) throws Exception {
            if (next(6) != 0) {
                make("wipe", strip);
            }
            int kinds = 2 + next(SIGNS.length - 1);
            for (int i = 0; i < 5 * pictures - 1; i++) {
                char sign = SIGNS[next(kinds)].charAt(0);
                make("type", strip, i % 5 == 4 ? ';' : sign);
            }
            if (next(10) == 0) {
                make("type", strip, next(256));
            }
        }

        private void layDots(int look, int dots) throws Exception {
            if (next(3) != 0) {
                make("blink", look);
            }
            // Few PLACES, half round and evenly apart: so that many rows are alike.
            int apart = new int[] {1, 10, 30, 15}[next(4)];
            for (int i = 0; i < dots; i++) {
                make("dot", look, apart * next(60 / apart), next(4) == 0 ? next(4) : 0);
            }
        }

        private void fillSheet(int s) throws Exception {
            int form = next(3);
            int size = next(8);
            make("sheet", s, form, size);
            for (int i = 0; i < size; i++) {
                make("put", s, form, i, next(4) == 0 ? next(200000) - 100000 : next(63) - 1);
            }
        }

        private void one(String[] call) throws Exception {
            int[] numbers = new int[call.length - 1];
            for (int i = 0; i < numbers.length; i++) {
                numbers[i] = number(call[i + 1]);
            }
            make(call[0], numbers);
        }

        private static int number(String told) {
            int dots = told.indexOf("..");
            int least = Integer.parseInt(told.substring(0, dots));
            int most = Integer.parseInt(told.substring(dots + 2));
            int kind = next(90);
            if (kind == 0) {
                return least - 1;
            }
            if (kind == 1) {
                return most + 1;
            }
            if (kind == 2) {
                return next(2) == 0 ? Integer.MIN_VALUE + next(3) : Integer.MAX_VALUE - next(3);
            }
            return kind == 3 ? -1 - next(20) : kind < 8 ? least : kind < 13 ? most : least + next(most - least + 1);
        }

        private void make(String call, int... numbers) throws Exception {
            Object[] boxed = new Object[numbers.length];
            for (int i = 0; i < numbers.length; i++) {
                boxed[i] = numbers[i];
            }
            calls++;
            if (calls > 512) {
                return;
            }
            told.append(' ').append(call).append(Arrays.toString(numbers));
            long due = ((Number) model.get(call).invoke(y, boxed)).longValue();
            long got = ((Number) face.get(call).invoke(x, boxed)).longValue();
            check.same(got == due ? call : "run " + number + ":" + told, got, due);
        }
    }

    /** The document, told again. */
    private static final class Model {
        static final int NONE = -1, BAD = -2, NOT = -3, FULL = -4;

        private final StringBuilder[] texts = {new StringBuilder(), new StringBuilder()};
        private final List<List<int[]>> looks = List.of(new ArrayList<>(), new ArrayList<>());
        private final List<int[]> tried = new ArrayList<>();
        private final Object[] rows = new Object[4];
        private int gap = 3;
        private int unlike = 10;
        private int latest;

        // ---- strips

        private static boolean in(long v, long least, long most) {
            return least <= v && v <= most;
        }

        private int find(int number) {
            latest = number;
            return -10 - number;
        }

        /** The FAULT. */
        private int faultOf(int strip) {
            String text = texts[strip].toString();
            if (text.isEmpty()) {
                return NONE;
            }
            int at = 0;
            for (int picture = 0; true; picture++) {
                for (int part = 0; part < 4; part++) {
                    if (at == text.length() || picture == 12 || "0123456789-".indexOf(text.charAt(at)) < 0) {
                        return at;
                    }
                    at++;
                }
                if (at == text.length()) {
                    return NONE;
                }
                if (text.charAt(at) != ';') {
                    return at;
                }
                at++;
            }
        }

        private String[] picturesOf(int strip) {
            return texts[strip].length() == 0 || faultOf(strip) != NONE ? new String[0]
                : texts[strip].toString().split(";");
        }

        private int stepOf(String from, String to) {
            int sum = 0;
            for (int part = 0; part < 4; part++) {
                char a = from.charAt(part);
                char b = to.charAt(part);
                sum += a != '-' && b != '-' ? Math.abs(a - b) : (a == '-') != (b == '-') ? gap : 0;
            }
            return sum;
        }

        private int wholeOf(String[] pictures) {
            int sum = 0;
            for (int i = 0; i < pictures.length; i++) {
                sum += stepOf(pictures[i], pictures[(i + 1) % pictures.length]);
            }
            return sum;
        }

        public int type(int strip, int b) {
            if (!in(strip, 0, 1) || !in(b, 0, 255)) {
                return BAD;
            }
            return texts[strip].length() == 80 ? FULL : texts[strip].append((char) b).length();
        }

        public int wipe(int strip) {
            if (!in(strip, 0, 1)) {
                return BAD;
            }
            int had = texts[strip].length();
            texts[strip].setLength(0);
            return had;
        }

        public int fault(int strip) {
            return in(strip, 0, 1) ? faultOf(strip) : BAD;
        }

        public int place(int strip, int picture, int part) {
            if (!in(strip, 0, 1) || !in(picture, 0, picturesOf(strip).length - 1) || !in(part, 0, 3)) {
                return BAD;
            }
            char sign = picturesOf(strip)[picture].charAt(part);
            return sign == '-' ? NONE : Character.digit(sign, 10);
        }

        public int step(int strip, int from, int to) {
            if (!in(strip, 0, 1)) {
                return BAD;
            }
            String[] pictures = picturesOf(strip);
            return in(from, 0, pictures.length - 1) && in(to, 0, pictures.length - 1)
                ? stepOf(pictures[from], pictures[to]) : BAD;
        }

        public int whole(int strip) {
            return in(strip, 0, 1) ? wholeOf(picturesOf(strip)) : BAD;
        }

        public int set(int what, int v) {
            int was = what == 0 ? gap : unlike;
            if (what == 0 && in(v, 0, 9)) {
                gap = v;
                return was;
            }
            if (what == 1 && in(v, 0, 60)) {
                unlike = v;
                return was;
            }
            return BAD;
        }

        // ---- drums

        /** The whole number nearest to above by below, of two the lesser. */
        private static long nearest(long above, long below) {
            long best = 0;
            for (long n = 1; (n - 1) * below <= above; n++) {
                if (Math.abs(above - n * below) < Math.abs(above - best * below)) {
                    best = n;
                }
            }
            return best;
        }

        private static long lowest(long above, long below, int what) {
            for (long common = below; common > 1; common--) {
                if (above % common == 0 && below % common == 0) {
                    return what == 0 ? above / common : below / common;
                }
            }
            return what == 0 ? above : below;
        }

        private static int seemingOf(int slits, int pictures) {
            long advance = nearest(pictures, slits);
            if (advance * slits < pictures) {
                return 2;
            }
            return advance * slits > pictures ? 3 : advance % pictures == 0 ? 0 : 1;
        }

        public int drum(int slits, int pictures, int what) {
            if (!in(slits, 1, 24) || !in(pictures, 1, 24) || !in(what, 0, 1)) {
                return BAD;
            }
            return what == 0 ? (int) nearest(pictures, slits) : seemingOf(slits, pictures);
        }

        public long drift(int slits, int pictures, int what) {
            if (!in(slits, 1, 24) || !in(pictures, 1, 24) || !in(what, 0, 1)) {
                return Long.MIN_VALUE + 2;
            }
            return lowest(pictures - nearest(pictures, slits) * slits, slits, what);
        }

        private static int seenAt(int pictures, int slits, int k) {
            return (int) (k * nearest(pictures, slits) % pictures);
        }

        public int seen(int strip, int slits, int k) {
            if (!in(strip, 0, 1) || !in(slits, 1, 24) || !in(k, -1, 999)) {
                return BAD;
            }
            int pictures = picturesOf(strip).length;
            if (pictures == 0) {
                return NOT;
            }
            if (k != NONE) {
                return seenAt(pictures, slits, k);
            }
            int round = 1;
            while (seenAt(pictures, slits, round) != 0) {
                round++;
            }
            return round;
        }

        public int numbers(int advance, int seeming, int i) {
            if (!in(advance, 0, 24) || !in(seeming, 0, 3) || i < -1) {
                return BAD;
            }
            List<Integer> pairs = new ArrayList<>();
            for (int slits = 1; slits <= 24; slits++) {
                for (int pictures = 1; pictures <= 24; pictures++) {
                    if (nearest(pictures, slits) == advance && seemingOf(slits, pictures) == seeming) {
                        pairs.add(100 * slits + pictures);
                    }
                }
            }
            return told(pairs, i);
        }

        private static int told(List<Integer> all, int i) {
            return i == NONE ? all.size() : i < all.size() ? all.get(i) : NONE;
        }

        // ---- wheels

        /** What it SEEMS to go, above 60 times FLASHES. */
        private static long seems(int spokes, int turns, int flashes) {
            return (long) spokes * turns - nearest((long) spokes * turns, 60L * flashes) * 60 * flashes;
        }

        public long wheel(int spokes, int turns, int flashes, int what) {
            if (!in(spokes, 1, 36) || !in(turns, 0, 999) || !in(flashes, 1, 99) || !in(what, 0, 1)) {
                return Long.MIN_VALUE + 2;
            }
            return lowest(seems(spokes, turns, flashes), 60L * flashes, what);
        }

        private static List<Integer> fitting(int spokes, int turns, int flashes, int second) {
            List<Integer> fit = new ArrayList<>();
            for (int t = 0; t <= 999; t++) {
                if (seems(spokes, t, flashes) == seems(spokes, turns, flashes)
                    && (second == NONE || seems(spokes, t, second) == seems(spokes, turns, second))) {
                    fit.add(t);
                }
            }
            return fit;
        }

        private static boolean lamps(int spokes, int turns, int flashes, int second) {
            return in(spokes, 1, 36) && in(turns, 0, 999) && in(flashes, 1, 99) && (second == NONE || in(second, 1, 99));
        }

        public int fits(int spokes, int turns, int flashes, int second, int i) {
            return lamps(spokes, turns, flashes, second) && i >= -1 ? told(fitting(spokes, turns, flashes, second), i) : BAD;
        }

        public int upTo(int spokes, int turns, int flashes, int second, int most) {
            if (!lamps(spokes, turns, flashes, second) || !in(most, 0, 999)) {
                return BAD;
            }
            int found = 0;
            for (int t : fitting(spokes, turns, flashes, second)) {
                found += t <= most ? 1 : 0;
            }
            return found;
        }

        // ---- dots

        public int dot(int look, int place, int form) {
            if (!in(look, 0, 1) || !in(place, 0, 59) || !in(form, 0, 3)) {
                return BAD;
            }
            if (looks.get(look).size() == 6) {
                return FULL;
            }
            looks.get(look).add(new int[] {place, form});
            return looks.get(look).size() - 1;
        }

        public int read(int s, int look) {
            if (!in(s, 0, 3) || !in(look, 0, 1)) {
                return BAD;
            }
            if (rows[s] == null) {
                return find(1);
            }
            for (int i = 0; i < sizeOf(s); i++) {
                if (dot(look, item(s, i), 0) < 0) {
                    return i;
                }
            }
            return sizeOf(s);
        }

        public int blink(int look) {
            if (!in(look, 0, 1)) {
                return BAD;
            }
            int had = looks.get(look).size();
            looks.get(look).clear();
            return had;
        }

        private static int way(int from, int to) {
            for (int way = -29; true; way++) {
                if ((from + way + 60) % 60 == to) {
                    return way;
                }
            }
        }

        private boolean turned() {
            return looks.get(1).size() < looks.get(0).size();
        }

        /** All rows that are JOINED, from the least on: sum, NET and the row. */
        private List<int[]> joinings() {
            List<int[]> all = new ArrayList<>();
            List<int[]> fewer = looks.get(turned() ? 1 : 0);
            List<int[]> others = looks.get(turned() ? 0 : 1);
            lay(new int[fewer.size()], 0, fewer, others, all);
            int least = Integer.MAX_VALUE;
            for (int[] row : all) {
                least = Math.min(least, row[0]);
            }
            List<int[]> best = new ArrayList<>();
            for (int[] row : all) {
                if (row[0] == least) {
                    best.add(row);
                }
            }
            return best;
        }

        private void lay(int[] row, int laid, List<int[]> fewer, List<int[]> others, List<int[]> all) {
            if (laid == row.length) {
                all.add(weighed(row, fewer, others));
                return;
            }
            for (int other = 0; other < others.size(); other++) {
                boolean taken = false;
                for (int i = 0; i < laid; i++) {
                    taken |= row[i] == other;
                }
                if (!taken) {
                    row[laid] = other;
                    lay(row, laid + 1, fewer, others, all);
                }
            }
        }

        private int[] weighed(int[] row, List<int[]> fewer, List<int[]> others) {
            int[] told = new int[2 + row.length];
            for (int i = 0; i < row.length; i++) {
                int[] one = fewer.get(i);
                int[] other = others.get(row[i]);
                int way = turned() ? way(other[0], one[0]) : way(one[0], other[0]);
                told[0] += Math.abs(way) + (one[1] == other[1] ? 0 : unlike);
                told[1] += way;
                told[2 + i] = row[i];
            }
            return told;
        }

        public int join(int what) {
            if (!in(what, 0, 2)) {
                return BAD;
            }
            List<int[]> best = joinings();
            int split = 0;
            for (int[] row : best) {
                split = row[1] != best.get(0)[1] ? 1 : split;
            }
            return what == 0 ? best.get(0)[0] : what == 1 ? best.size() : split;
        }

        public int net() {
            return joinings().get(0)[1];
        }

        public int joined(int look, int dot) {
            if (!in(look, 0, 1) || !in(dot, 0, looks.get(look).size() - 1)) {
                return BAD;
            }
            int[] row = joinings().get(0);
            if ((look == 1) == turned()) {
                return row[2 + dot];
            }
            for (int i = 2; i < row.length; i++) {
                if (row[i] == dot) {
                    return i - 2;
                }
            }
            return NONE;
        }

        // ---- widths, orders

        public long narrow(int w, int a, int b, int what) {
            if (!in(w, 1, 99) || !in(a, 1, 99) || !in(b, 1, 99) || !in(what, 0, 1)) {
                return Long.MIN_VALUE + 2;
            }
            return lowest((long) w * b, a + b, what);
        }

        public int wide(int v, int a, int b) {
            if (!in(v, 0, 99) || !in(a, 1, 99) || !in(b, 1, 99)) {
                return BAD;
            }
            int w = 1;
            while (w <= 999 && w * b < v * (a + b)) {
                w++;
            }
            return w <= 999 ? w : NONE;
        }

        public int slit(int light, int blur) {
            if (!in(light, 0, 99) || !in(blur, 0, 99)) {
                return BAD;
            }
            int best = 20;
            for (int w = 19; w >= 1; w--) {
                best = light * w - blur * w * w >= light * best - blur * best * best ? w : best;
            }
            return best;
        }

        /** All rows with PICTURE 0 first, from the least on. */
        private static void layRows(List<Integer> laid, int pictures, List<List<Integer>> all) {
            if (laid.size() == pictures) {
                all.add(new ArrayList<>(laid));
                return;
            }
            for (int next = 0; next < pictures; next++) {
                if (!laid.contains(next)) {
                    laid.add(next);
                    layRows(laid, pictures, all);
                    laid.remove(laid.size() - 1);
                }
            }
        }

        private int wholeOfRow(String[] pictures, List<Integer> row) {
            String[] laid = new String[row.size()];
            for (int i = 0; i < laid.length; i++) {
                laid[i] = pictures[row.get(i)];
            }
            return wholeOf(laid);
        }

        /** The rows in which the WHOLE is least. */
        private List<List<Integer>> bestRows(String[] pictures) {
            List<List<Integer>> all = new ArrayList<>();
            layRows(new ArrayList<>(List.of(0)), pictures.length, all);
            List<List<Integer>> best = new ArrayList<>();
            int least = Integer.MAX_VALUE;
            for (List<Integer> row : all) {
                int whole = wholeOfRow(pictures, row);
                if (whole < least) {
                    best.clear();
                    least = whole;
                }
                if (whole == least) {
                    best.add(row);
                }
            }
            return best;
        }

        public int order(int strip, int i) {
            if (!in(strip, 0, 1) || i < -1) {
                return BAD;
            }
            String[] pictures = picturesOf(strip);
            if (pictures.length == 0 || pictures.length > 8) {
                return pictures.length == 0 ? NOT : FULL;
            }
            if (i >= pictures.length) {
                return BAD;
            }
            List<Integer> row = bestRows(pictures).get(0);
            return i == NONE ? wholeOfRow(pictures, row) : row.get(i);
        }

        public int orders(int strip) {
            if (!in(strip, 0, 1)) {
                return BAD;
            }
            String[] pictures = picturesOf(strip);
            return pictures.length == 0 ? NOT : pictures.length > 8 ? FULL : bestRows(pictures).size();
        }

        private static String halfOf(String from, String to) {
            StringBuilder half = new StringBuilder();
            for (int part = 0; part < 4; part++) {
                char a = from.charAt(part);
                char b = to.charAt(part);
                half.append(a == '-' ? b : b == '-' ? a : (char) ('0' + (a - '0' + b - '0') / 2));
            }
            return half.toString();
        }

        private int squares(List<String> pictures) {
            int sum = 0;
            for (int i = 0; i < pictures.size(); i++) {
                int step = stepOf(pictures.get(i), pictures.get((i + 1) % pictures.size()));
                sum += step * step;
            }
            return sum;
        }

        public int missing(int strip, int what) {
            if (!in(strip, 0, 1) || !in(what, 0, 1)) {
                return BAD;
            }
            List<String> pictures = Arrays.asList(picturesOf(strip));
            if (pictures.isEmpty()) {
                return NOT;
            }
            int[] most = {NONE, 0};
            for (int i = 0; i < pictures.size(); i++) {
                List<String> more = new ArrayList<>(pictures);
                more.add(i + 1, halfOf(pictures.get(i), pictures.get((i + 1) % pictures.size())));
                int less = squares(pictures) - squares(more);
                most = less > most[1] ? new int[] {i, less} : most;
            }
            return most[what];
        }

        public int half(int strip, int picture, int part) {
            if (!in(strip, 0, 1) || !in(part, 0, 3)) {
                return BAD;
            }
            String[] pictures = picturesOf(strip);
            if (!in(picture, 0, pictures.length - 1)) {
                return BAD;
            }
            char sign = halfOf(pictures[picture], pictures[(picture + 1) % pictures.length]).charAt(part);
            return sign == '-' ? NONE : sign - '0';
        }

        public int few(int strip, int t) {
            if (!in(strip, 0, 1) || !in(t, 0, 60)) {
                return BAD;
            }
            String[] pictures = picturesOf(strip);
            if (pictures.length == 0) {
                return NOT;
            }
            int best = NONE;
            for (int bits = (1 << pictures.length) - 1; bits > 0; bits--) {
                if ((best == NONE || Integer.bitCount(bits) <= Integer.bitCount(best)) && covers(pictures, bits, t)) {
                    best = bits;
                }
            }
            return best;
        }

        private boolean covers(String[] pictures, int bits, int t) {
            for (String picture : pictures) {
                boolean near = false;
                for (int i = 0; i < pictures.length; i++) {
                    near |= (bits >> i & 1) == 1 && stepOf(picture, pictures[i]) <= t;
                }
                if (!near) {
                    return false;
                }
            }
            return true;
        }

        // ---- tries, blades

        public int tries(int pace, int bright, int one) {
            if (!in(pace, 1, 60) || !in(bright, 0, 9) || !in(one, 0, 1)) {
                return BAD;
            }
            if (tried.size() == 40) {
                return FULL;
            }
            tried.add(new int[] {pace, bright, one});
            return tried.size();
        }

        public int wrong(int a, int b) {
            if (!in(a, 0, 60) || !in(b, 0, 9)) {
                return BAD;
            }
            int found = 0;
            for (int[] t : tried) {
                found += t[0] >= a + b * t[1] == (t[2] == 1) ? 0 : 1;
            }
            return found;
        }

        public int line(int what) {
            if (!in(what, 0, 2)) {
                return BAD;
            }
            if (tried.isEmpty()) {
                return NOT;
            }
            int[] best = {0, 0, wrong(0, 0)};
            for (int a = 0; a <= 60; a++) {
                for (int b = 0; b <= 9; b++) {
                    best = wrong(a, b) < best[2] ? new int[] {a, b, wrong(a, b)} : best;
                }
            }
            return best[what];
        }

        public int bent(int s, int what) {
            if (!in(s, 0, 3) || !in(what, 0, 2)) {
                return BAD;
            }
            if (rows[s] == null) {
                return find(1);
            }
            if (sizeOf(s) == 0) {
                return NOT;
            }
            int[] best = {0, 0, Integer.MAX_VALUE};
            for (int p = 0; p <= 59; p++) {
                for (int q = 0; q <= 59; q++) {
                    int sum = 0;
                    for (int y = 0; y < sizeOf(s); y++) {
                        int apart = Math.abs(Math.floorMod(item(s, y), 60) - (q + p * y) % 60);
                        sum += Math.min(apart, 60 - apart);
                    }
                    best = sum < best[2] ? new int[] {p, q, sum} : best;
                }
            }
            return best[what];
        }

        // ---- sheets

        private int sizeOf(int s) {
            return java.lang.reflect.Array.getLength(rows[s]);
        }

        private int item(int s, int i) {
            return ((Number) java.lang.reflect.Array.get(rows[s], i)).intValue();
        }

        private int formOf(int s) {
            return rows[s] instanceof byte[] ? 0 : rows[s] instanceof short[] ? 1 : 2;
        }

        private void store(int s, int i, int v) {
            if (rows[s] instanceof byte[] bytes) {
                bytes[i] = (byte) v;
            } else if (rows[s] instanceof short[] shorts) {
                shorts[i] = (short) v;
            } else if (rows[s] instanceof int[] ints) {
                ints[i] = v;
            }
        }

        public int sheet(int s, int form, int n) {
            if (!in(s, 0, 3) || !in(form, 0, 2) || n > 60) {
                return BAD;
            }
            if (n < 0) {
                return find(5);
            }
            rows[s] = form == 0 ? new byte[n] : form == 1 ? new short[n] : new int[n];
            return n;
        }

        public int lose(int s) {
            if (!in(s, 0, 3)) {
                return BAD;
            }
            if (rows[s] == null) {
                return find(1);
            }
            int had = sizeOf(s);
            rows[s] = null;
            return had;
        }

        /** What the machine would find at item i of a SHEET treated as of a FORM; 0: nothing. */
        private int found(int s, int form, int i) {
            return rows[s] == null ? 1 : formOf(s) != form ? 3 : i < 0 || i >= sizeOf(s) ? 2 : 0;
        }

        public int put(int s, int form, int i, int v) {
            if (!in(s, 0, 3) || !in(form, 0, 2)) {
                return BAD;
            }
            if (found(s, form, i) != 0) {
                return find(found(s, form, i));
            }
            store(s, i, v);
            return 1;
        }

        public int get(int s, int form, int i) {
            if (!in(s, 0, 3) || !in(form, 0, 2)) {
                return Integer.MIN_VALUE;
            }
            if (found(s, form, i) != 0) {
                find(found(s, form, i));
                return Integer.MIN_VALUE;
            }
            return item(s, i);
        }

        public int copy(int s, int i, int t, int j, int n) {
            if (!in(s, 0, 3) || !in(t, 0, 3)) {
                return BAD;
            }
            if (rows[s] == null || rows[t] == null) {
                return find(1);
            }
            if (formOf(s) != formOf(t)) {
                return find(4);
            }
            if (i < 0 || j < 0 || n < 0 || (long) i + n > sizeOf(s) || (long) j + n > sizeOf(t)) {
                return find(2);
            }
            int[] were = new int[n];
            for (int k = 0; k < n; k++) {
                were[k] = item(s, i + k);
            }
            for (int k = 0; k < n; k++) {
                store(t, j + k, were[k]);
            }
            return 1;
        }

        public int write(int strip, int slits, int s) {
            if (!in(strip, 0, 1) || !in(slits, 1, 24) || !in(s, 0, 3)) {
                return BAD;
            }
            if (rows[s] == null) {
                return find(1);
            }
            int pictures = picturesOf(strip).length;
            if (pictures == 0) {
                return NOT;
            }
            for (int k = 0; k < sizeOf(s); k++) {
                store(s, k, seenAt(pictures, slits, k));
            }
            return sizeOf(s);
        }

        public int count(int what) {
            if (!in(what, 0, 8)) {
                return BAD;
            }
            int[] all = {picturesOf(0).length, picturesOf(1).length, texts[0].length(), texts[1].length(),
                looks.get(0).size(), looks.get(1).size(), tried.size(), gap, latest};
            return all[what];
        }

        public long digest() {
            List<Integer> told = new ArrayList<>();
            for (int what = 0; what <= 7; what++) {
                told.add(count(what));
            }
            for (int strip = 0; strip <= 1; strip++) {
                told.addAll(List.of(fault(strip), whole(strip), seen(strip, 12, NONE), missing(strip, 0),
                    missing(strip, 1), few(strip, 5), orders(strip)));
                for (int i = 0; i < 4 * picturesOf(strip).length; i++) {
                    told.add(place(strip, i / 4, i % 4));
                }
            }
            told.addAll(List.of(join(0), join(1), join(2), net()));
            for (int look = 0; look <= 1; look++) {
                for (int dot = 0; dot < looks.get(look).size(); dot++) {
                    told.add(joined(look, dot));
                }
            }
            told.addAll(List.of(numbers(1, 2, NONE), line(0), line(1), line(2)));
            long h = 17;
            for (int v : told) {
                h = 31 * h + v;
            }
            return h;
        }
    }
}
