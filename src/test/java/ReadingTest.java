/** Promises 12 to 14: bytes that are to be read, and what they make. */
public final class ReadingTest {
    private static final Class<IllegalArgumentException> ARGUMENT = IllegalArgumentException.class;
    private static final Class<UnsupportedOperationException> TOO_MANY =
            UnsupportedOperationException.class;

    public static void main(String[] args) {
        promise12Feed();
        promise12FeedAtTheEdge();
        promise13Pass();
        promise13PassAtTheEdge();
        promise14Plain();
        promise14Parts();
        promise14RefusedHead();
        promise14RefusedRectangles();
        promise14RefusedCopies();
        promise14RefusedRuns();
        promise14RefusedLater();
        promise14RefusedBehindAnother();
        promise14Utmost();
        Check.end();
    }

    private static void promise12Feed() {
        DrawingForms d = new DrawingForms(2, 2);
        Check.due("feed(0)", d.feed(0), 1);
        Check.due("feed(255)", d.feed(255), 2);
        for (int b : new int[] {-1, 256, Integer.MIN_VALUE, Integer.MAX_VALUE}) {
            Check.thrown("feed(" + b + ")", ARGUMENT, () -> d.feed(b));
        }
        Check.due("told(3)", d.told(3), 2);
        Check.due("bytes told stay", d.told(2), 0);
    }

    /** 13 times 307 bytes and 9 more are the 4000 that there may be. */
    private static DrawingForms filled() {
        DrawingForms d = new DrawingForms(18, 17);
        for (int i = 0; i < 306; i++) {
            d.put(i % 18, i / 18, (i * 7 + i / 37) % 256);
        }
        Check.due("encode() of a plain one", d.encode(), 307);
        for (int i = 1; i <= 13; i++) {
            Check.due("pass()", d.pass(), 307 * i);
        }
        Check.feed(d, 1, 2, 3, 4, 5, 6, 7, 8);
        Check.due("told(3)", d.told(3), 3999);
        return d;
    }

    private static void promise12FeedAtTheEdge() {
        DrawingForms d = filled();
        Check.due("feed(9), the 4000th", d.feed(9), 4000);
        Check.thrown("feed(9), the 4001st", TOO_MANY, () -> d.feed(9));
        Check.thrown("feed(256) when full", ARGUMENT, () -> d.feed(256));
        Check.due("told(3)", d.told(3), 4000);
        Check.thrown("pass() when full", TOO_MANY, () -> d.pass());
        Check.due("decode() of too many", d.decode(), -1 - 307);
        Check.due("told(3) when gone", d.told(3), 0);
        Check.due("feed(9) again", d.feed(9), 1);
    }

    private static void promise13Pass() {
        DrawingForms d = new DrawingForms(4, 2);
        Check.due("pass() of nothing", d.pass(), 0);
        d.box(0, 0, 3, 1, 6);
        d.encode();
        Check.due("pass()", d.pass(), 8);
        d.feed(1);
        Check.due("pass() behind", d.pass(), 17);
        d.apply();
        Check.due("bytes told are there yet", Check.bytes(d), "1 0 3 0 0 3 6 0");
        d.change();
        Check.due("pass() of changes", d.pass(), 7);
        Check.due("apply() of what was passed", d.apply(), 3);
        Check.due("the picture", Check.picture(d), "0 0 0 0 / 0 0 0 0");
    }

    private static void promise13PassAtTheEdge() {
        DrawingForms full = filled();
        full.second(0, 0, 1);
        full.box(0, 0, 18, 17, 0);
        full.put(0, 0, 1);
        full.change();
        Check.due("changes of 1 byte", full.told(2), 1);
        Check.due("pass() to 4000", full.pass(), 4000);
        Check.thrown("pass() to 4001", TOO_MANY, () -> full.pass());
        Check.due("told(3)", full.told(3), 4000);
        full.decode();
        Check.due("pass() when gone", full.pass(), 1);
        DrawingForms other = filled();
        other.box(0, 0, 18, 17, 5);
        other.encode();
        Check.thrown("pass() to 4002", TOO_MANY, () -> other.pass());
        Check.due("told(3) when it threw", other.told(3), 3999);
    }

    private static void promise14Plain() {
        DrawingForms d = new DrawingForms(2, 2);
        Check.due("a plain one", read(d, 0, 1, 255, 0, 4), 0);
        Check.due("the picture", Check.picture(d), "1 255 / 0 4");
        Check.due("the bytes are gone", d.told(3), 0);
        Check.due("one too few", read(d, 0, 9, 9, 9), -5);
        Check.due("all too few", read(d, 0), -2);
        Check.due("one too many", read(d, 0, 9, 9, 9, 9, 9), -6);
        Check.due("two too many", read(d, 0, 9, 9, 9, 9, 0, 0), -6);
        Check.due("the bytes are gone", d.told(3), 0);
        Check.due("the picture stays", Check.picture(d), "1 255 / 0 4");
    }

    private static void promise14Parts() {
        DrawingForms d = new DrawingForms(5, 3);
        Check.due("a ground", read(d, 1, 255, 0), 0);
        Check.due("the picture", Check.picture(d),
                "255 255 255 255 255 / 255 255 255 255 255 / 255 255 255 255 255");
        Check.due("small rectangles, and over others",
                read(d, 1, 1, 1, 0, 0, 2, 2, 7, 1, 1, 1, 1, 1, 1, 3, 4, 2, 1, 0, 0), 3);
        Check.due("the picture", Check.picture(d), "7 7 1 1 1 / 7 1 1 1 1 / 1 1 1 1 0");
        Check.due("short copies, and copies of copies",
                read(d, 1, 0, 3, 0, 0, 4, 3, 3, 1, 0, 1, 4, 2, 1, 1, 3, 3, 1, 2, 0, 2, 2, 5, 1, 0), 4);
        Check.due("the picture", Check.picture(d), "3 4 3 3 0 / 0 3 4 3 0 / 3 4 0 0 0");
        Check.due("a copy takes what is there then",
                read(d, 1, 0, 2, 0, 1, 2, 4, 1, 3, 0, 0, 5, 8, 0), 2);
        Check.due("the picture", Check.picture(d), "8 8 8 8 8 / 0 0 0 0 0 / 0 0 0 0 0");
        Check.due("all of it",
                read(d, 1, 0, 1, 0, 0, 5, 3, 2, 2, 0, 2, 5, 4, 2, 3, 0, 1, 5, 6, 0), 3);
        Check.due("the picture", Check.picture(d), "2 2 2 2 2 / 6 6 6 6 6 / 2 2 2 2 2");
        Check.due("parts() is of encode() alone", d.parts(), 0);
    }

    private static void promise14RefusedHead() {
        DrawingForms d = new DrawingForms(5, 3);
        Check.due("nothing", d.decode(), -1);
        Check.due("no such form", read(d, 2), -1);
        Check.due("no such form", read(d, 255, 0, 0), -1);
        Check.due("no ground", read(d, 1), -2);
        Check.due("no end", read(d, 1, 7), -3);
        Check.due("a byte behind the end", read(d, 1, 7, 0, 0), -4);
        Check.due("more bytes behind the end", read(d, 1, 7, 0, 9, 9, 9), -4);
        Check.due("no such part", read(d, 1, 7, 4, 0, 0, 1, 1, 1, 0), -3);
        Check.due("no such part", read(d, 1, 7, 255), -3);
        Check.due("the picture stays", Check.picture(d), "0 0 0 0 0 / 0 0 0 0 0 / 0 0 0 0 0");
    }

    private static void promise14RefusedRectangles() {
        int[][] wrong = {{5, 0, 1, 1}, {0, 3, 1, 1}, {4, 0, 2, 1}, {0, 2, 1, 2}, {0, 0, 6, 1},
            {0, 0, 1, 4}, {0, 0, 0, 1}, {0, 0, 1, 0}, {255, 255, 255, 255}, {0, 0, 255, 255}};
        for (int[] r : wrong) {
            DrawingForms d = new DrawingForms(5, 3);
            Check.due("rectangle " + r[0] + " " + r[1] + " " + r[2] + " " + r[3],
                    read(d, 1, 7, 1, r[0], r[1], r[2], r[3], 9, 0), -3);
            Check.due("the picture stays", Check.picture(d), "0 0 0 0 0 / 0 0 0 0 0 / 0 0 0 0 0");
        }
        cutShort(1, 7, 1, 0, 0, 1, 1, 9);
        Check.due("no end behind", read(new DrawingForms(5, 3), 1, 7, 1, 0, 0, 1, 1, 9), -9);
    }

    private static void promise14RefusedCopies() {
        int[][] wrong = {{1, 1, 1, 4, 0}, {1, 1, 1, 4, 5}, {1, 1, 1, 9, 1}, {1, 1, 0, 4, 1},
            {1, 1, 1, 255, 1}, {1, 1, 1, 4, 255}, {1, 0, 1, 4, 1}, {1, 2, 1, 4, 3}, {0, 1, 1, 3, 1},
            {3, 1, 1, 0, 1}, {4, 1, 1, 5, 1}, {1, 1, 4, 5, 1}, {1, 1, 5, 3, 1}, {5, 1, 1, 3, 1},
            {5, 1, 1, 4, 1}, {1, 3, 1, 4, 1}, {255, 255, 255, 8, 4}};
        for (int[] c : wrong) {
            DrawingForms d = new DrawingForms(5, 3);
            Check.due("copy " + c[0] + " " + c[1] + " " + c[2] + " " + c[3] + " " + c[4],
                    read(d, 1, 7, 2, c[0], c[1], c[2], c[3], c[4], 0), -3);
            Check.due("the picture stays", Check.picture(d), "0 0 0 0 0 / 0 0 0 0 0 / 0 0 0 0 0");
        }
        int[][] right = {{4, 1, 1, 0, 1}, {0, 2, 1, 8, 2}, {0, 1, 5, 4, 1}, {1, 1, 4, 3, 1},
            {0, 2, 4, 5, 2}};
        for (int[] c : right) {
            Check.due("copy " + c[0] + " " + c[1] + " " + c[2] + " " + c[3] + " " + c[4],
                    read(new DrawingForms(5, 3), 1, 7, 2, c[0], c[1], c[2], c[3], c[4], 0), 1);
        }
        Check.due("dy of four", read(new DrawingForms(5, 5), 1, 7, 2, 0, 4, 5, 4, 4, 0), 1);
        cutShort(1, 7, 2, 0, 1, 1, 4, 1);
    }

    private static void promise14RefusedRuns() {
        int[][] wrong = {{5, 0, 1}, {0, 3, 1}, {4, 0, 2}, {0, 0, 6}, {0, 0, 0}, {255, 255, 255}};
        for (int[] r : wrong) {
            DrawingForms d = new DrawingForms(5, 3);
            Check.due("run " + r[0] + " " + r[1] + " " + r[2],
                    read(d, 1, 7, 3, r[0], r[1], r[2], 9, 0), -3);
            Check.due("the picture stays", Check.picture(d), "0 0 0 0 0 / 0 0 0 0 0 / 0 0 0 0 0");
        }
        cutShort(1, 7, 3, 0, 0, 1, 9);
    }

    /** However much of its only part is left, the refusal is told at the part's first byte. */
    private static void cutShort(int... bytes) {
        for (int left = 3; left < bytes.length; left++) {
            DrawingForms d = new DrawingForms(5, 3);
            for (int i = 0; i < left; i++) {
                d.feed(bytes[i]);
            }
            Check.due("a part cut to " + (left - 2) + " bytes", d.decode(), -3);
        }
    }

    private static void promise14RefusedLater() {
        DrawingForms d = new DrawingForms(5, 3);
        d.box(0, 0, 5, 3, 1);
        Check.due("the second part is wrong",
                read(d, 1, 7, 3, 0, 0, 5, 9, 3, 0, 0, 6, 9, 0), -8);
        Check.due("the first of two wrong ones",
                read(d, 1, 7, 3, 0, 0, 5, 9, 1, 0, 0, 5, 4, 9, 3, 0, 0, 6, 9, 0), -8);
        Check.due("wrong before too many",
                read(d, 1, 7, 1, 0, 0, 5, 3, 9, 4, 0, 0, 0), -9);
        Check.due("too many before wrong", read(d, 1, 7, 3, 0, 0, 5, 9, 0, 4, 0), -9);
        Check.due("the picture stays", Check.picture(d), "1 1 1 1 1 / 1 1 1 1 1 / 1 1 1 1 1");
        Check.due("the second one stays", d.swap(), 15);
        Check.due("the second one", Check.picture(d), "0 0 0 0 0 / 0 0 0 0 0 / 0 0 0 0 0");
    }

    /** What was read before must be as safe from a refused reading as what was put. */
    private static void promise14RefusedBehindAnother() {
        DrawingForms d = new DrawingForms(3, 1);
        Check.due("a right one", read(d, 1, 7, 3, 0, 0, 1, 5, 0), 1);
        Check.due("a wrong one", read(d, 1, 8, 3, 0, 0, 3, 9, 4), -8);
        Check.due("the picture stays", Check.picture(d), "5 7 7");
        Check.due("a right one", read(d, 0, 1, 2, 3), 0);
        Check.due("a wrong one", read(d, 1, 8, 4), -3);
        Check.due("the picture stays", Check.picture(d), "1 2 3");
        d.put(0, 0, 6);
        Check.feed(d, 2, 0, 1, 4, 255);
        Check.due("changes are of the picture as it is", d.apply(), 1);
        Check.due("the picture", Check.picture(d), "6 2 4");
    }

    private static void promise14Utmost() {
        DrawingForms d = new DrawingForms(24, 24);
        Check.due("a rectangle of all", read(d, 1, 0, 1, 0, 0, 24, 24, 9, 0), 1);
        Check.due("at(23, 23)", d.at(23, 23), 9);
        Check.feed(d, 1, 3);
        for (int i = 0; i < 90; i++) {
            Check.feed(d, 3, 0, 23, 24, i);
        }
        d.feed(0);
        Check.due("many parts", d.decode(), 90);
        Check.due("at(23, 23)", d.at(23, 23), 89);
        Check.due("at(23, 22)", d.at(23, 22), 3);
    }

    private static int read(DrawingForms d, int... bytes) {
        Check.feed(d, bytes);
        return d.decode();
    }
}
