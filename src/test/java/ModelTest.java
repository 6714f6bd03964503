import java.util.ArrayList;
import java.util.Arrays;
import java.util.List;

/**
 * Long runs of calls, each answered also by a slow model that is written from the document's words
 * alone. The numbers come from a fixed sequence, so each run of the test is the same.
 */
public final class ModelTest {
    private static final int RUNS = 3000;
    private static final int CALLS = 512;

    private long seed;

    private ModelTest(long seed) {
        this.seed = seed;
    }

    public static void main(String[] args) {
        for (int run = 1; run <= RUNS; run++) {
            new ModelTest(run * 7919L).run(run);
        }
        Check.end();
    }

    private int below(int bound) {
        seed = seed * 6364136223846793005L + 1442695040888963407L;
        return (int) ((seed >>> 33) % bound);
    }

    private int side() {
        return below(12) == 0 ? wild() : 1 + below(below(3) == 0 ? 24 : 9);
    }

    private int wild() {
        int[] some = {Integer.MIN_VALUE, -1, 0, 1, 24, 25, 255, 256, Integer.MAX_VALUE};
        return some[below(some.length)];
    }

    private void run(int run) {
        int width = side();
        int height = side();
        int values = 2 + below(4);
        DrawingForms real = new DrawingForms(width, height);
        Model model = new Model(width, height);
        List<String> calls = new ArrayList<>();
        int left = CALLS;
        while (left > 0) {
            for (int[] call : burst(model, values)) {
                if (left-- <= 0) {
                    break;
                }
                calls.add(Arrays.toString(call));
                String got = answer(real, call);
                String want = answer(model, call);
                Check.due("run " + run + " (" + width + ", " + height + ")", got, want);
                if (!got.equals(want)) {
                    System.out.println("calls: " + calls);
                    return;
                }
            }
        }
    }

    /** Some calls that belong together, each as its number and arguments. */
    private List<int[]> burst(Model m, int values) {
        List<int[]> calls = new ArrayList<>();
        int v = below(10) == 0 ? below(256) : below(values);
        int x = below(m.width);
        int y = below(m.height);
        switch (below(13)) {
            case 0:
                calls.add(new int[] {0, x, y, v});
                break;
            case 1:
                calls.add(new int[] {1, x, y, 1 + below(m.width), 1 + below(m.height), v});
                break;
            case 2:
                calls.add(new int[] {3, x, y, v});
                break;
            case 3:
                wildCall(calls);
                break;
            case 4:
                shiftedRow(calls, m, values);
                break;
            case 5:
                calls.add(new int[] {5});
                someParts(calls);
                break;
            case 6:
                calls.add(new int[] {below(2) == 0 ? 5 : 13});
                calls.add(new int[] {11});
                calls.add(new int[] {below(3) == 0 ? 4 : 15, 3});
                read(calls, m, below(2) == 0);
                break;
            case 7:
            case 8:
                spoiled(calls, m, below(2) == 0);
                break;
            case 9:
                madeUpParts(calls, m);
                break;
            case 10:
                calls.add(new int[] {13});
                calls.add(new int[] {6, below(9)});
                break;
            case 11:
                calls.add(new int[] {below(8) == 0 ? 16 : 11});
                break;
            default:
                calls.add(new int[] {15, below(6)});
                calls.add(new int[] {2, x, y});
                break;
        }
        return calls;
    }

    private void wildCall(List<int[]> calls) {
        int[] call = new int[6];
        call[0] = below(17);
        for (int i = 1; i < call.length; i++) {
            call[i] = below(2) == 0 ? wild() : below(3);
        }
        calls.add(call);
    }

    /** A row of many values, and a row below it that is like it but moved: there copies are found. */
    private void shiftedRow(List<int[]> calls, Model m, int values) {
        int from = below(m.height);
        int to = from + 1 + below(5);
        int dx = below(11) - 5;
        int[] row = new int[m.width];
        for (int x = 0; x < m.width; x++) {
            row[x] = 1 + below(values);
            calls.add(new int[] {0, x, from, row[x]});
        }
        for (int x = 0; x < m.width && to < m.height; x++) {
            boolean like = x + dx >= 0 && x + dx < m.width && below(12) != 0;
            calls.add(new int[] {0, x, to, like ? row[x + dx] : below(values)});
        }
    }

    private void someParts(List<int[]> calls) {
        calls.add(new int[] {7});
        calls.add(new int[] {9});
        int k = below(12);
        for (int what = 0; what < 6; what++) {
            calls.add(new int[] {8, k, what});
        }
        int i = below(20);
        for (int n = 0; n < 8; n++) {
            calls.add(new int[] {6, i + n});
        }
    }

    /** A telling that is short enough is fed with one byte changed, lacking, or too much. */
    private void spoiled(List<int[]> calls, Model m, boolean drawing) {
        List<Integer> bytes = new ArrayList<>(drawing ? m.drawing(new ArrayList<>()) : m.changes());
        if (bytes.size() > 60) {
            return;
        }
        int at = below(bytes.size());
        switch (below(5)) {
            case 0:
                bytes.set(at, below(2) == 0 ? below(256) : below(10));
                break;
            case 1:
                bytes.remove(at);
                break;
            case 2:
                bytes.add(at, below(10));
                break;
            case 3:
                bytes = bytes.subList(0, at);
                break;
            default:
                bytes.add(below(10));
                break;
        }
        feedAll(calls, bytes);
        read(calls, m, drawing);
    }

    private void madeUpParts(List<int[]> calls, Model m) {
        List<Integer> bytes = new ArrayList<>(List.of(1, below(4)));
        int parts = below(5);
        for (int k = 0; k < parts; k++) {
            int kind = 1 + below(3);
            int x = below(m.width);
            int y = below(m.height);
            bytes.addAll(List.of(kind, x, y, 1 + below(Math.max(1, m.width - x))));
            if (kind == 1) {
                bytes.add(1 + below(m.height - y));
            }
            if (kind == 2) {
                bytes.add(below(12) == 0 ? 9 : 2 + below(5));
            }
            bytes.add(kind == 2 ? below(6) : below(256));
        }
        bytes.add(0);
        feedAll(calls, bytes);
        read(calls, m, true);
    }

    /** Every call counts against the object's 512, so of the picture only some samples are seen. */
    private void read(List<int[]> calls, Model m, boolean drawing) {
        calls.add(new int[] {drawing ? 12 : 14});
        for (int n = 0; n < 10; n++) {
            calls.add(new int[] {2, below(m.width), below(m.height)});
        }
    }

    private static void feedAll(List<int[]> calls, List<Integer> bytes) {
        for (int b : bytes) {
            calls.add(new int[] {10, b});
        }
    }

    private static String answer(DrawingForms d, int[] c) {
        try {
            switch (c[0]) {
                case 0: return "put " + d.put(c[1], c[2], c[3]);
                case 1: return "box " + d.box(c[1], c[2], c[3], c[4], c[5]);
                case 2: return "at " + d.at(c[1], c[2]);
                case 3: return "second " + d.second(c[1], c[2], c[3]);
                case 4: return "swap " + d.swap();
                case 5: return "encode " + d.encode();
                case 6: return "byteAt " + d.byteAt(c[1]);
                case 7: return "parts " + d.parts();
                case 8: return "part " + d.part(c[1], c[2]);
                case 9: return "isPlain " + d.isPlain();
                case 10: return "feed " + d.feed(c[1]);
                case 11: return "pass " + d.pass();
                case 12: return "decode " + d.decode();
                case 13: return "change " + d.change();
                case 14: return "apply " + d.apply();
                case 15: return "told " + d.told(c[1]);
                default:
                    d.clear();
                    return "clear";
            }
        } catch (RuntimeException e) {
            return e.getClass().getSimpleName();
        }
    }

    private static String answer(Model m, int[] c) {
        switch (c[0]) {
            case 0: return m.set("put ", m.picture, c[1], c[2], c[3]);
            case 1: return m.box(c[1], c[2], c[3], c[4], c[5]);
            case 2: return m.in(c[1], c[2]) ? "at " + m.picture[c[2]][c[1]] : Model.INDEX;
            case 3: return m.set("second ", m.second, c[1], c[2], c[3]);
            case 4: return "swap " + m.swap();
            case 5: return "encode " + m.encode();
            case 6: return c[1] >= 0 && c[1] < m.told.size() ? "byteAt " + m.told.get(c[1])
                    : Model.INDEX;
            case 7: return "parts " + m.parts.size();
            case 8: return m.part(c[1], c[2]);
            case 9: return "isPlain " + m.plain;
            case 10: return m.feed(c[1]);
            case 11: return m.pass();
            case 12: return "decode " + m.decode();
            case 13: return "change " + m.change();
            case 14: return "apply " + m.apply();
            case 15: return "told " + m.tell(c[1]);
            default:
                m.clear();
                return "clear";
        }
    }

    /** The document, said as plainly as can be, whatever it costs. */
    private static final class Model {
        static final String INDEX = "IndexOutOfBoundsException";
        static final String ARGUMENT = "IllegalArgumentException";
        static final String TOO_MANY = "UnsupportedOperationException";

        final int width;
        final int height;
        int[][] picture;
        int[][] second;
        List<Integer> told = new ArrayList<>();
        List<Integer> toRead = new ArrayList<>();
        List<int[]> parts = new ArrayList<>();
        boolean plain = false;

        Model(int width, int height) {
            this.width = width < 1 ? 1 : width > 24 ? 24 : width;
            this.height = height < 1 ? 1 : height > 24 ? 24 : height;
            clear();
        }

        void clear() {
            picture = new int[height][width];
            second = new int[height][width];
            told = new ArrayList<>();
            toRead = new ArrayList<>();
            parts = new ArrayList<>();
            plain = false;
        }

        boolean in(long x, long y) {
            return 0 <= x && x < width && 0 <= y && y < height;
        }

        String set(String name, int[][] p, int x, int y, int v) {
            if (!in(x, y)) {
                return INDEX;
            }
            if (v < 0 || v > 255) {
                return ARGUMENT;
            }
            boolean another = p[y][x] != v;
            p[y][x] = v;
            return name + another;
        }

        String box(int x, int y, int w, int h, int v) {
            if (!in(x, y)) {
                return INDEX;
            }
            if (v < 0 || v > 255 || w < 1 || h < 1) {
                return ARGUMENT;
            }
            int changed = 0;
            for (int b = 0; b < height; b++) {
                for (int a = 0; a < width; a++) {
                    if (a >= x && a < (long) x + w && b >= y && b < (long) y + h) {
                        changed += picture[b][a] != v ? 1 : 0;
                        picture[b][a] = v;
                    }
                }
            }
            return "box " + changed;
        }

        int swap() {
            int[][] first = picture;
            picture = second;
            second = first;
            int differ = 0;
            for (int i = 0; i < width * height; i++) {
                differ += picture[i / width][i % width] != second[i / width][i % width] ? 1 : 0;
            }
            return differ;
        }

        int ground() {
            int best = -1;
            int most = 0;
            for (int v = 255; v >= 0; v--) {
                int n = 0;
                for (int[] row : picture) {
                    for (int sample : row) {
                        n += sample == v ? 1 : 0;
                    }
                }
                if (n > 0 && n >= most) {
                    most = n;
                    best = v;
                }
            }
            return best;
        }

        int encode() {
            parts = new ArrayList<>();
            told = drawing(parts);
            plain = told.get(0) == 0;
            return told.size();
        }

        List<Integer> drawing(List<int[]> found) {
            int ground = ground();
            boolean[][] open = new boolean[height][width];
            for (int i = 0; i < width * height; i++) {
                open[i / width][i % width] = picture[i / width][i % width] != ground;
            }
            for (int i = 0; i < width * height; i++) {
                if (open[i / width][i % width]) {
                    rectangle(found, open, i % width, i / width);
                }
            }
            for (int i = 0; i < width * height; i++) {
                if (open[i / width][i % width]) {
                    copyOrRun(found, open, i % width, i / width);
                }
            }
            List<Integer> bytes = new ArrayList<>(List.of(1, ground));
            for (int[] p : found) {
                bytes.addAll(List.of(p[0], p[1], p[2], p[3], p[0] == 2 ? p[4] + 4 : p[4]));
                if (p[0] != 3) {
                    bytes.add(p[5]);
                }
            }
            bytes.add(0);
            if (bytes.size() > 1 + width * height) {
                bytes = new ArrayList<>(List.of(0));
                for (int i = 0; i < width * height; i++) {
                    bytes.add(picture[i / width][i % width]);
                }
            }
            return bytes;
        }

        void rectangle(List<int[]> found, boolean[][] open, int x, int y) {
            int[] best = null;
            for (int w = 1; x + w <= width; w++) {
                for (int h = 1; y + h <= height; h++) {
                    boolean all = true;
                    for (int b = y; b < y + h && all; b++) {
                        for (int a = x; a < x + w && all; a++) {
                            all = open[b][a] && picture[b][a] == picture[y][x];
                        }
                    }
                    if (!all) {
                        break;
                    }
                    if (best == null || w * h > best[3] * best[4]
                            || w * h == best[3] * best[4] && w > best[3]) {
                        best = new int[] {1, x, y, w, h, picture[y][x]};
                    }
                }
            }
            if (best != null && best[3] * best[4] >= 6) {
                found.add(best);
                for (int b = y; b < y + best[4]; b++) {
                    Arrays.fill(open[b], x, x + best[3], false);
                }
            }
        }

        void copyOrRun(List<int[]> found, boolean[][] open, int x, int y) {
            int n = 0;
            while (x + n < width && open[y][x + n]) {
                n++;
            }
            int[] best = {2, x, y, 0, 0, 0};
            for (int dy = 1; dy <= 4; dy++) {
                for (int dx = -4; dx <= 4; dx++) {
                    int c = 0;
                    while (c < n && in(x + c + dx, y - dy)
                            && picture[y - dy][x + c + dx] == picture[y][x + c]) {
                        c++;
                    }
                    if (c > best[3]) {
                        best = new int[] {2, x, y, c, dx, dy};
                    }
                }
            }
            int r = 0;
            while (r < n && picture[y][x + r] == picture[y][x]) {
                r++;
            }
            if (best[3] < 4 || best[3] <= r) {
                best = new int[] {3, x, y, r, picture[y][x], -1};
            }
            found.add(best);
            Arrays.fill(open[y], x, x + best[3], false);
        }

        String part(int k, int what) {
            if (k < 0 || k >= parts.size()) {
                return INDEX;
            }
            return what < 0 || what > 5 ? ARGUMENT : "part " + parts.get(k)[what];
        }

        String feed(int b) {
            if (b < 0 || b > 255) {
                return ARGUMENT;
            }
            if (toRead.size() == 4000) {
                return TOO_MANY;
            }
            toRead.add(b);
            return "feed " + toRead.size();
        }

        String pass() {
            if (toRead.size() + told.size() > 4000) {
                return TOO_MANY;
            }
            toRead.addAll(told);
            return "pass " + toRead.size();
        }

        int decode() {
            List<Integer> in = toRead;
            toRead = new ArrayList<>();
            int[][] made = new int[height][width];
            if (in.isEmpty() || in.get(0) > 1) {
                return -1;
            }
            if (in.get(0) == 0) {
                for (int i = 0; i < width * height; i++) {
                    if (1 + i >= in.size()) {
                        return -1 - in.size();
                    }
                    made[i / width][i % width] = in.get(1 + i);
                }
                return ended(in, 1 + width * height, made, 0);
            }
            if (in.size() < 2) {
                return -2;
            }
            for (int[] row : made) {
                Arrays.fill(row, in.get(1));
            }
            int at = 2;
            int n = 0;
            while (at < in.size() && in.get(at) != 0) {
                int length = in.get(at) == 3 ? 5 : 6;
                if (in.get(at) > 3 || at + length > in.size()
                        || !draw(in.subList(at, at + length), made)) {
                    return -1 - at;
                }
                at += length;
                n++;
            }
            return at >= in.size() ? -1 - at : ended(in, at + 1, made, n);
        }

        int ended(List<Integer> in, int end, int[][] made, int answer) {
            if (in.size() > end) {
                return -1 - end;
            }
            picture = made;
            return answer;
        }

        boolean draw(List<Integer> p, int[][] made) {
            int x = p.get(1);
            int y = p.get(2);
            int w = p.get(3);
            int h = p.get(0) == 1 ? p.get(4) : 1;
            if (w == 0 || h == 0 || !in(x, y) || !in(x + w - 1, y + h - 1)) {
                return false;
            }
            int dx = p.get(0) == 2 ? p.get(4) - 4 : 0;
            int dy = p.get(0) == 2 ? p.get(5) : 0;
            if (p.get(0) == 2 && (dy == 0 || dy > 4 || dx > 4 || !in(x + dx, y - dy)
                    || !in(x + dx + w - 1, y - dy))) {
                return false;
            }
            for (int b = y; b < y + h; b++) {
                for (int a = x; a < x + w; a++) {
                    made[b][a] = p.get(0) == 1 ? p.get(5) : p.get(0) == 3 ? p.get(4)
                            : made[b - dy][a + dx];
                }
            }
            return true;
        }

        int change() {
            told = changes();
            return told.size();
        }

        List<Integer> changes() {
            List<Integer> bytes = new ArrayList<>();
            int head = -1;
            for (int y = 0; y < height; y++) {
                for (int x = 0; x < width; x++) {
                    if (picture[y][x] == second[y][x]) {
                        continue;
                    }
                    if (x == 0 || picture[y][x - 1] == second[y][x - 1]) {
                        head = bytes.size();
                        bytes.addAll(List.of(x, y, 0));
                    }
                    bytes.set(head + 2, bytes.get(head + 2) + 1);
                    bytes.add(second[y][x]);
                }
            }
            bytes.add(255);
            return bytes;
        }

        int apply() {
            List<Integer> in = toRead;
            toRead = new ArrayList<>();
            int[][] made = new int[height][];
            for (int y = 0; y < height; y++) {
                made[y] = picture[y].clone();
            }
            int at = 0;
            int samples = 0;
            while (at < in.size() && in.get(at) != 255) {
                if (at + 3 > in.size()) {
                    return -1 - at;
                }
                int x = in.get(at);
                int y = in.get(at + 1);
                int n = in.get(at + 2);
                if (n == 0 || !in(x, y) || !in(x + n - 1, y) || at + 3 + n > in.size()) {
                    return -1 - at;
                }
                for (int i = 0; i < n; i++) {
                    made[y][x + i] = in.get(at + 3 + i);
                }
                at += 3 + n;
                samples += n;
            }
            return at >= in.size() ? -1 - at : ended(in, at + 1, made, samples);
        }

        int tell(int what) {
            int[] all = {width, height, told.size(), toRead.size(), ground()};
            return what >= 0 && what < all.length ? all[what] : -1;
        }
    }
}
