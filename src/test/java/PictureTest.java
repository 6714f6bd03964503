/** Promises 1 to 6, 17 and 18: the two pictures and what is told of them. */
public final class PictureTest {
    private static final Class<IndexOutOfBoundsException> INDEX = IndexOutOfBoundsException.class;
    private static final Class<IllegalArgumentException> ARGUMENT = IllegalArgumentException.class;
    private static final int LEAST = Integer.MIN_VALUE;
    private static final int MOST = Integer.MAX_VALUE;

    public static void main(String[] args) {
        promise1NewObject();
        promise2Put();
        promise3Box();
        promise3BoxWrongInputs();
        promise4At();
        promise5Second();
        promise6Swap();
        promise17Told();
        promise17Ground();
        promise18Clear();
        Check.end();
    }

    private static void promise1NewObject() {
        int[][] sides = {{1, 1}, {2, 2}, {23, 23}, {24, 24}, {25, 24}, {0, 1}, {-1, 1}, {LEAST, 1},
            {MOST, 24}};
        for (int[] side : sides) {
            DrawingForms wide = new DrawingForms(side[0], 3);
            Check.due("width of (" + side[0] + ", 3)", wide.told(0), side[1]);
            Check.due("height of (" + side[0] + ", 3)", wide.told(1), 3);
            DrawingForms high = new DrawingForms(3, side[0]);
            Check.due("width of (3, " + side[0] + ")", high.told(0), 3);
            Check.due("height of (3, " + side[0] + ")", high.told(1), side[1]);
        }
        DrawingForms d = new DrawingForms(3, 2);
        Check.due("a new picture", Check.picture(d), "0 0 0 / 0 0 0");
        Check.due("swap() of a new object", d.swap(), 0);
        Check.due("a new second picture", Check.picture(d), "0 0 0 / 0 0 0");
        DrawingForms full = new DrawingForms(24, 24);
        Check.due("the last sample", full.at(23, 23), 0);
        Check.due("the last sample is put", full.put(23, 23, 255), true);
        Check.due("the last sample of the second", full.second(23, 23, 255), true);
    }

    private static void promise2Put() {
        DrawingForms d = new DrawingForms(4, 3);
        Check.due("put(0, 0, 0)", d.put(0, 0, 0), false);
        Check.due("put(3, 2, 255)", d.put(3, 2, 255), true);
        Check.due("put(3, 2, 255) again", d.put(3, 2, 255), false);
        Check.due("put(3, 2, 254)", d.put(3, 2, 254), true);
        Check.due("put(1, 2, 7)", d.put(1, 2, 7), true);
        Check.due("the picture", Check.picture(d), "0 0 0 0 / 0 0 0 0 / 0 7 0 254");
        int[][] none = {{4, 0}, {-1, 0}, {0, 3}, {0, -1}, {LEAST, 0}, {MOST, 0}, {0, LEAST},
            {0, MOST}, {MOST, MOST}};
        for (int[] at : none) {
            Check.thrown("put(" + at[0] + ", " + at[1] + ", 1)", INDEX, () -> d.put(at[0], at[1], 1));
            Check.thrown("put(" + at[0] + ", " + at[1] + ", 256)", INDEX,
                    () -> d.put(at[0], at[1], 256));
        }
        for (int v : new int[] {-1, 256, LEAST, MOST}) {
            Check.thrown("put(0, 0, " + v + ")", ARGUMENT, () -> d.put(0, 0, v));
        }
        Check.due("the picture after throws", Check.picture(d), "0 0 0 0 / 0 0 0 0 / 0 7 0 254");
        Check.due("the second differs from it", d.swap(), 2);
        Check.due("the second", Check.picture(d), "0 0 0 0 / 0 0 0 0 / 0 0 0 0");
    }

    private static void promise3Box() {
        DrawingForms d = new DrawingForms(4, 3);
        Check.due("box(1, 1, 2, 1, 5)", d.box(1, 1, 2, 1, 5), 2);
        Check.due("box(0, 0, 2, 2, 5)", d.box(0, 0, 2, 2, 5), 3);
        Check.due("the picture", Check.picture(d), "5 5 0 0 / 5 5 5 0 / 0 0 0 0");
        Check.due("box cut", d.box(2, 1, 9, 9, 6), 4);
        Check.due("the picture", Check.picture(d), "5 5 0 0 / 5 5 6 6 / 0 0 6 6");
        Check.due("box cut at the utmost", d.box(1, 2, MOST, MOST, 255), 3);
        Check.due("the picture", Check.picture(d), "5 5 0 0 / 5 5 6 6 / 0 255 255 255");
        Check.due("box of one", d.box(3, 2, 1, 1, 0), 1);
        Check.due("box of what is so", d.box(3, 2, 5, 5, 0), 0);
        Check.due("box of all", d.box(0, 0, 4, 3, 0), 8);
        Check.due("the second is as it was", d.swap(), 0);
    }

    private static void promise3BoxWrongInputs() {
        DrawingForms d = new DrawingForms(4, 3);
        int[][] none = {{4, 0}, {-1, 0}, {0, 3}, {0, -1}, {LEAST, LEAST}, {MOST, MOST}};
        for (int[] at : none) {
            Check.thrown("box(" + at[0] + ", " + at[1] + ", 2, 2, 1)", INDEX,
                    () -> d.box(at[0], at[1], 2, 2, 1));
            Check.thrown("box(" + at[0] + ", " + at[1] + ", 0, 2, 1)", INDEX,
                    () -> d.box(at[0], at[1], 0, 2, 1));
            Check.thrown("box(" + at[0] + ", " + at[1] + ", 2, 2, 256)", INDEX,
                    () -> d.box(at[0], at[1], 2, 2, 256));
        }
        for (int v : new int[] {-1, 256, LEAST, MOST}) {
            Check.thrown("box(0, 0, 1, 1, " + v + ")", ARGUMENT, () -> d.box(0, 0, 1, 1, v));
        }
        for (int side : new int[] {0, -1, LEAST}) {
            Check.thrown("box(0, 0, " + side + ", 1, 1)", ARGUMENT, () -> d.box(0, 0, side, 1, 1));
            Check.thrown("box(0, 0, 1, " + side + ", 1)", ARGUMENT, () -> d.box(0, 0, 1, side, 1));
        }
        Check.due("the picture after throws", Check.picture(d), "0 0 0 0 / 0 0 0 0 / 0 0 0 0");
    }

    private static void promise4At() {
        DrawingForms d = Check.drawn(Check.row(1, 2, 3), Check.row(4, 5, 255));
        Check.due("at(0, 0)", d.at(0, 0), 1);
        Check.due("at(2, 0)", d.at(2, 0), 3);
        Check.due("at(0, 1)", d.at(0, 1), 4);
        Check.due("at(2, 1)", d.at(2, 1), 255);
        int[][] none = {{3, 0}, {-1, 0}, {-1, 1}, {0, 2}, {2, 2}, {0, -1}, {LEAST, 0}, {MOST, 0},
            {0, LEAST}, {0, MOST}};
        for (int[] at : none) {
            Check.thrown("at(" + at[0] + ", " + at[1] + ")", INDEX, () -> d.at(at[0], at[1]));
        }
    }

    private static void promise5Second() {
        DrawingForms d = new DrawingForms(3, 2);
        Check.due("second(0, 0, 0)", d.second(0, 0, 0), false);
        Check.due("second(2, 1, 255)", d.second(2, 1, 255), true);
        Check.due("second(2, 1, 255) again", d.second(2, 1, 255), false);
        Check.due("second(2, 1, 3)", d.second(2, 1, 3), true);
        Check.due("the picture is as it was", Check.picture(d), "0 0 0 / 0 0 0");
        int[][] none = {{3, 0}, {-1, 0}, {0, 2}, {0, -1}, {LEAST, MOST}, {MOST, LEAST}};
        for (int[] at : none) {
            Check.thrown("second(" + at[0] + ", " + at[1] + ", 1)", INDEX,
                    () -> d.second(at[0], at[1], 1));
            Check.thrown("second(" + at[0] + ", " + at[1] + ", -1)", INDEX,
                    () -> d.second(at[0], at[1], -1));
        }
        for (int v : new int[] {-1, 256, LEAST, MOST}) {
            Check.thrown("second(2, 1, " + v + ")", ARGUMENT, () -> d.second(2, 1, v));
        }
        d.swap();
        Check.due("the second", Check.picture(d), "0 0 0 / 0 0 3");
    }

    private static void promise6Swap() {
        DrawingForms d = Check.drawn(Check.row(1, 2), Check.row(3, 4));
        d.second(0, 0, 1);
        d.second(1, 0, 9);
        Check.due("swap()", d.swap(), 3);
        Check.due("the picture", Check.picture(d), "1 9 / 0 0");
        d.put(0, 1, 3);
        Check.due("swap() back", d.swap(), 2);
        Check.due("the picture", Check.picture(d), "1 2 / 3 4");
        d.encode();
        d.pass();
        d.swap();
        Check.due("bytes told stay", Check.bytes(d), "0 1 2 3 4");
        Check.due("bytes to be read stay", d.told(3), 5);
    }

    private static void promise17Told() {
        DrawingForms d = new DrawingForms(5, 7);
        Check.due("told(0)", d.told(0), 5);
        Check.due("told(1)", d.told(1), 7);
        Check.due("told(2) at first", d.told(2), 0);
        Check.due("told(3) at first", d.told(3), 0);
        Check.due("told(4) at first", d.told(4), 0);
        d.second(1, 1, 1);
        d.encode();
        Check.due("told(2) after encode()", d.told(2), 3);
        d.change();
        Check.due("told(2) after change()", d.told(2), 5);
        Check.feed(d, 1, 0, 0);
        Check.due("told(3) after three", d.told(3), 3);
        d.decode();
        Check.due("told(3) after decode()", d.told(3), 0);
        Check.due("told(2) after decode()", d.told(2), 5);
        for (int what : new int[] {5, 6, -1, LEAST, MOST}) {
            Check.due("told(" + what + ")", d.told(what), DrawingForms.NONE);
        }
    }

    private static void promise17Ground() {
        DrawingForms d = Check.drawn(Check.row(9, 9, 3), Check.row(3, 255, 255));
        Check.due("the least of three grounds", d.told(4), 3);
        d.put(0, 0, 255);
        Check.due("the ground that most have", d.told(4), 255);
        Check.due("the ground of none alike",
                Check.drawn(Check.row(40, 30), Check.row(255, 31)).told(4), 30);
        d.swap();
        Check.due("the ground is the picture's", d.told(4), 0);
        d.box(0, 0, 3, 1, 8);
        Check.due("0 is a value like another", d.told(4), 0);
        d.put(0, 1, 8);
        Check.due("the ground as it is", d.told(4), 8);
    }

    private static void promise18Clear() {
        DrawingForms d = Check.drawn(Check.row(1, 2), Check.row(3, 4));
        d.second(1, 1, 5);
        d.encode();
        d.pass();
        d.clear();
        Check.due("width after clear()", d.told(0), 2);
        Check.due("height after clear()", d.told(1), 2);
        Check.due("bytes told after clear()", d.told(2), 0);
        Check.due("bytes to be read after clear()", d.told(3), 0);
        Check.due("ground after clear()", d.told(4), 0);
        Check.due("parts after clear()", d.parts(), 0);
        Check.due("isPlain after clear()", d.isPlain(), false);
        Check.thrown("byteAt(0) after clear()", INDEX, () -> d.byteAt(0));
        Check.thrown("part(0, 0) after clear()", INDEX, () -> d.part(0, 0));
        Check.due("pass() after clear()", d.pass(), 0);
        Check.due("decode() after clear()", d.decode(), -1);
        Check.due("the picture after clear()", Check.picture(d), "0 0 / 0 0");
        Check.due("swap() after clear()", d.swap(), 0);
        Check.due("the second after clear()", Check.picture(d), "0 0 / 0 0");
    }
}
