import java.util.ArrayList;
import java.util.List;

/** The searches told again from the document's words by trying all that there is, on rows of numbers without chance. */
public final class OracleTest {
    private static final Check check = new Check("OracleTest");
    private static long seed = 20260101;

    public static void main(String[] args) {
        for (int run = 0; run < 150; run++) {
            strips(run);
            dots(run);
            tries(run);
        }
        for (int run = 0; run < 60; run++) {
            blades(run);
        }
        check.end();
    }

    private static int next(int bound) {
        seed = seed * 6364136223846793005L + 1442695040888963407L;
        return (int) ((seed >>> 33) % bound);
    }

    // ---- strips

    private static void strips(int run) {
        int n = 1 + run % 12;
        int figures = 2 + next(9);
        int hidden = next(5);
        int[][] pictures = new int[n][4];
        StringBuilder text = new StringBuilder();
        for (int p = 0; p < n; p++) {
            text.append(p == 0 ? "" : ";");
            for (int part = 0; part < 4; part++) {
                pictures[p][part] = hidden > 0 && next(12) < hidden ? -1 : next(Math.min(figures, 10));
                text.append(pictures[p][part] < 0 ? "-" : "" + pictures[p][part]);
            }
        }
        int gap = next(10);
        DrumSlits x = Check.strips("", text.toString());
        x.set(0, gap);
        String name = text + " by " + gap + ": ";
        check.same(name + "whole", x.whole(1), whole(pictures, gap));
        missing(name, x, pictures, gap);
        few(name, x, pictures, gap, next(20));
        if (n <= 8) {
            order(name, x, pictures, gap);
        }
    }

    private static int step(int[] from, int[] to, int gap) {
        int sum = 0;
        for (int part = 0; part < 4; part++) {
            boolean both = from[part] >= 0 && to[part] >= 0;
            boolean none = from[part] < 0 && to[part] < 0;
            sum += both ? Math.abs(from[part] - to[part]) : none ? 0 : gap;
        }
        return sum;
    }

    private static int whole(int[][] pictures, int gap) {
        int sum = 0;
        for (int p = 0; p < pictures.length; p++) {
            sum += step(pictures[p], pictures[(p + 1) % pictures.length], gap);
        }
        return sum;
    }

    private static int squares(List<int[]> pictures, int gap) {
        int sum = 0;
        for (int p = 0; p < pictures.size(); p++) {
            int step = step(pictures.get(p), pictures.get((p + 1) % pictures.size()), gap);
            sum += step * step;
        }
        return sum;
    }

    private static void missing(String name, DrumSlits x, int[][] pictures, int gap) {
        int before = squares(List.of(pictures), gap);
        int best = -1;
        int most = 0;
        for (int p = 0; p < pictures.length; p++) {
            int[] next = pictures[(p + 1) % pictures.length];
            int[] half = new int[4];
            for (int part = 0; part < 4; part++) {
                int a = pictures[p][part];
                int b = next[part];
                half[part] = a >= 0 && b >= 0 ? (a + b) / 2 : Math.max(a, b);
                check.same(name + "half " + p + ", " + part, x.half(1, p, part), half[part]);
            }
            List<int[]> longer = new ArrayList<>(List.of(pictures));
            longer.add(p + 1, half);
            int less = before - squares(longer, gap);
            if (less > most) {
                most = less;
                best = p;
            }
        }
        check.same(name + "missing 0", x.missing(1, 0), best);
        check.same(name + "missing 1", x.missing(1, 1), most);
    }

    private static void few(String name, DrumSlits x, int[][] pictures, int gap, int t) {
        int best = 0;
        for (int size = 1; best == 0; size++) {
            for (int bits = (1 << pictures.length) - 1; bits > 0; bits--) {
                if (Integer.bitCount(bits) == size && does(pictures, gap, t, bits)) {
                    best = bits;
                }
            }
        }
        check.same(name + "few " + t, x.few(1, t), best);
    }

    private static boolean does(int[][] pictures, int gap, int t, int bits) {
        for (int[] picture : pictures) {
            boolean near = false;
            for (int p = 0; p < pictures.length; p++) {
                near |= (bits >> p & 1) == 1 && step(picture, pictures[p], gap) <= t;
            }
            if (!near) {
                return false;
            }
        }
        return true;
    }

    private static void order(String name, DrumSlits x, int[][] pictures, int gap) {
        List<int[]> rows = new ArrayList<>();
        allRows(pictures.length, pictures.length, new int[0], rows);
        int least = Integer.MAX_VALUE;
        int count = 0;
        int[] best = null;
        for (int[] row : rows) {
            if (row[0] != 0) {
                continue;
            }
            int[][] laid = new int[row.length][];
            for (int i = 0; i < row.length; i++) {
                laid[i] = pictures[row[i]];
            }
            int sum = whole(laid, gap);
            if (sum < least) {
                least = sum;
                count = 0;
                best = row;
            }
            count += sum == least ? 1 : 0;
        }
        check.same(name + "order NONE", x.order(1, -1), least);
        check.same(name + "orders", x.orders(1), count);
        for (int i = 0; i < best.length; i++) {
            check.same(name + "order " + i, x.order(1, i), best[i]);
        }
    }

    /** All rows of so many of the numbers below a bound, the least first. */
    private static void allRows(int length, int bound, int[] start, List<int[]> rows) {
        if (start.length == length) {
            rows.add(start);
            return;
        }
        for (int v = 0; v < bound; v++) {
            boolean taken = false;
            for (int w : start) {
                taken |= w == v;
            }
            if (!taken) {
                int[] longer = java.util.Arrays.copyOf(start, start.length + 1);
                longer[start.length] = v;
                allRows(length, bound, longer, rows);
            }
        }
    }

    // ---- dots

    private static void dots(int run) {
        DrumSlits x = new DrumSlits();
        int[] counts = {run % 7, run / 7 % 7};
        int[][] spots = new int[2][6];
        int[][] forms = new int[2][6];
        int grid = 1 + 4 * next(4);
        for (int look = 0; look < 2; look++) {
            for (int dot = 0; dot < counts[look]; dot++) {
                spots[look][dot] = next(60) / grid * grid;
                forms[look][dot] = next(1 + run % 4);
                x.dot(look, spots[look][dot], forms[look][dot]);
            }
        }
        int unlike = next(3) * next(21);
        x.set(1, unlike);
        joins(run, x, counts, spots, forms, unlike);
    }

    private static void joins(int run, DrumSlits x, int[] counts, int[][] spots, int[][] forms, int unlike) {
        int fewer = counts[1] < counts[0] ? 1 : 0;
        List<int[]> rows = new ArrayList<>();
        allRows(counts[fewer], counts[1 - fewer], new int[0], rows);
        int least = Integer.MAX_VALUE;
        int count = 0;
        int split = 0;
        int net = 0;
        int[] best = new int[0];
        for (int[] row : rows) {
            int sum = 0;
            int ways = 0;
            for (int dot = 0; dot < row.length; dot++) {
                int from = fewer == 0 ? dot : row[dot];
                int to = fewer == 0 ? row[dot] : dot;
                int way = way(spots[0][from], spots[1][to]);
                ways += way;
                sum += Math.abs(way) + (forms[0][from] == forms[1][to] ? 0 : unlike);
            }
            if (sum < least) {
                least = sum;
                count = 0;
                split = 0;
                net = ways;
                best = row;
            }
            if (sum == least) {
                count++;
                split |= ways == net ? 0 : 1;
            }
        }
        String name = "dots " + run + ": ";
        check.same(name + "sum", x.join(0), least);
        check.same(name + "rows", x.join(1), count);
        check.same(name + "SPLIT", x.join(2), split);
        check.same(name + "NET", x.net(), net);
        for (int other = 0; other < counts[1 - fewer]; other++) {
            int partner = -1;
            for (int dot = 0; dot < best.length; dot++) {
                partner = best[dot] == other ? dot : partner;
            }
            check.same(name + "joined, of more", x.joined(1 - fewer, other), partner);
        }
        for (int dot = 0; dot < best.length; dot++) {
            check.same(name + "joined, of fewer", x.joined(fewer, dot), best[dot]);
        }
    }

    private static int way(int from, int to) {
        int on = (to - from + 60) % 60;
        return on <= 30 ? on : on - 60;
    }

    // ---- tries, blades

    private static void tries(int run) {
        DrumSlits x = new DrumSlits();
        int n = 1 + run % 40;
        int[][] tries = new int[n][];
        for (int i = 0; i < n; i++) {
            int pace = 1 + next(60);
            int bright = next(10);
            tries[i] = new int[] {pace, bright, next(5) == 0 ? next(2) : pace >= 20 + run % 4 * bright ? 1 : 0};
            x.tries(pace, bright, tries[i][2]);
        }
        int[] best = {-1, -1, n + 1};
        for (int a = 0; a <= 60; a++) {
            for (int b = 0; b <= 9; b++) {
                int wrong = 0;
                for (int[] t : tries) {
                    boolean told = t[0] >= a + b * t[1];
                    wrong += told == (t[2] == 1) ? 0 : 1;
                }
                if (wrong < best[2]) {
                    best = new int[] {a, b, wrong};
                }
                if (a == run % 61) {
                    check.same("tries " + run + ": wrong(" + a + ", " + b + ")", x.wrong(a, b), wrong);
                }
            }
        }
        for (int what = 0; what < 3; what++) {
            check.same("tries " + run + ": line(" + what + ")", x.line(what), best[what]);
        }
    }

    private static void blades(int run) {
        DrumSlits x = new DrumSlits();
        int rows = 1 + run % 60;
        int[] items = new int[rows];
        int pace = next(60);
        for (int y = 0; y < rows; y++) {
            items[y] = run % 3 == 0 ? next(1000) - 500 : pace * y + next(1 + run % 5 * 3);
        }
        Check.row(x, 1, 2, items);
        int[] best = {-1, -1, Integer.MAX_VALUE};
        for (int p = 0; p < 60; p++) {
            for (int q = 0; q < 60; q++) {
                int sum = 0;
                for (int y = 0; y < rows; y++) {
                    sum += Math.abs(way((q + p * y) % 60, Math.floorMod(items[y], 60)));
                }
                if (sum < best[2]) {
                    best = new int[] {p, q, sum};
                }
            }
        }
        for (int what = 0; what < 3; what++) {
            check.same("blade " + run + ": bent(" + what + ")", x.bent(1, what), best[what]);
        }
    }
}
