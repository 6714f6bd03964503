/** Promises 7 to 11: how a picture is told. */
public final class TellingTest {
    private static final Class<IndexOutOfBoundsException> INDEX = IndexOutOfBoundsException.class;
    private static final Class<IllegalArgumentException> ARGUMENT = IllegalArgumentException.class;
    private static final int LEAST = Integer.MIN_VALUE;
    private static final int MOST = Integer.MAX_VALUE;

    public static void main(String[] args) {
        promise7Ground();
        promise7PlainAtTheEdge();
        promise7RectangleOfSix();
        promise7WidestOfTheLargest();
        promise7RectanglesInOrder();
        promise7CopyOfFour();
        promise7CopyAgainstRun();
        promise7FirstOfTheCopies();
        promise7CopyAcrossGround();
        promise7CopyEnds();
        promise8ByteAt();
        promise9And10Parts();
        promise11IsPlain();
        Check.end();
    }

    private static void promise7Ground() {
        DrawingForms d = Check.drawn(Check.row(7, 7, 2, 2, 9), Check.row(9, 9, 9, 9, 9));
        Check.due("encode()", d.encode(), 11);
        Check.due("a plain one is shorter", Check.bytes(d), "0 7 7 2 2 9 9 9 9 9 9");
        DrawingForms wide = new DrawingForms(10, 2);
        wide.box(0, 0, 10, 1, 200);
        Check.due("of two grounds the least", encoded(wide), "1 0 1 0 0 10 1 200 0");
        wide.put(9, 1, 200);
        Check.due("the ground that most have", encoded(wide), "1 200 1 0 1 9 1 0 0");
        Check.due("the picture stays", wide.at(0, 0), 200);
    }

    private static void promise7PlainAtTheEdge() {
        DrawingForms one = new DrawingForms(1, 1);
        Check.due("encode() of one sample", encoded(one), "0 0");
        Check.due("one sample is plain", one.isPlain(), true);
        DrawingForms two = new DrawingForms(2, 1);
        Check.due("encode() of two samples", encoded(two), "1 0 0");
        Check.due("two samples are not plain", two.isPlain(), false);
        DrawingForms seven = new DrawingForms(7, 1);
        seven.put(3, 0, 5);
        Check.due("as long plain: by parts", encoded(seven), "1 0 3 3 0 1 5 0");
        Check.due("as long plain: not plain", seven.isPlain(), false);
        DrawingForms six = new DrawingForms(6, 1);
        six.put(3, 0, 5);
        Check.due("longer than plain: plain", encoded(six), "0 0 0 0 5 0 0");
        Check.due("longer than plain: is plain", six.isPlain(), true);
        Check.due("the parts of a plain one", six.parts(), 1);
        Check.due("the part of a plain one", Check.part(six, 0), "3 3 0 1 5 -1");
    }

    private static void promise7RectangleOfSix() {
        DrawingForms d = new DrawingForms(12, 6);
        d.box(1, 1, 5, 1, 4);
        Check.due("five are a run", encoded(d), "1 0 3 1 1 5 4 0");
        d.put(6, 1, 4);
        Check.due("six are a rectangle", encoded(d), "1 0 1 1 1 6 1 4 0");
        d.box(0, 0, 12, 6, 0);
        d.box(11, 0, 1, 6, 4);
        Check.due("six below one another", encoded(d), "1 0 1 11 0 1 6 4 0");
        d.put(11, 5, 0);
        d.encode();
        Check.due("five below one another: the first", Check.part(d, 0), "3 11 0 1 4 -1");
        Check.due("five below one another: parts", d.parts(), 5);
    }

    private static void promise7WidestOfTheLargest() {
        DrawingForms d = new DrawingForms(12, 8);
        d.box(0, 0, 6, 1, 3);
        d.box(0, 0, 3, 2, 3);
        d.encode();
        Check.due("6 by 1 before 3 by 2", Check.part(d, 0), "1 0 0 6 1 3");
        Check.due("what is left", Check.part(d, 1), "3 0 1 3 3 -1");
        d.box(0, 0, 12, 8, 0);
        d.box(0, 0, 6, 1, 3);
        d.box(0, 0, 2, 4, 3);
        d.encode();
        Check.due("2 by 4 before 6 by 1", Check.part(d, 0), "1 0 0 2 4 3");
        Check.due("the rest of the row", Check.part(d, 1), "3 2 0 4 3 -1");
        d.box(0, 0, 12, 8, 0);
        d.box(0, 0, 4, 3, 3);
        d.box(1, 3, 3, 1, 3);
        d.encode();
        Check.due("a sample is the first one of its rectangle", Check.part(d, 0), "1 0 0 4 3 3");
    }

    private static void promise7RectanglesInOrder() {
        DrawingForms d = new DrawingForms(12, 8);
        d.box(4, 0, 4, 4, 3);
        d.box(2, 2, 4, 4, 6);
        d.put(0, 0, 3);
        d.encode();
        Check.due("rectangles come before runs", Check.part(d, 0), "1 4 0 4 2 3");
        Check.due("then in the order of samples", Check.part(d, 1), "1 2 2 4 4 6");
        Check.due("runs behind", Check.part(d, 2), "3 0 0 1 3 -1");
        Check.due("runs behind", Check.part(d, 3), "3 6 2 2 3 -1");
        Check.due("runs behind", Check.part(d, 4), "3 6 3 2 3 -1");
        Check.due("parts", d.parts(), 5);
        DrawingForms cross = new DrawingForms(12, 12);
        cross.box(2, 0, 2, 6, 5);
        cross.box(0, 2, 8, 2, 5);
        cross.encode();
        Check.due("the first takes its samples", Check.part(cross, 0), "1 2 0 2 6 5");
        Check.due("what is left on the right", Check.part(cross, 1), "1 4 2 4 2 5");
        Check.due("what is left on the left", Check.part(cross, 2), "3 0 2 2 5 -1");
        Check.due("what is left on the left", Check.part(cross, 3), "3 0 3 2 5 -1");
        Check.due("parts", cross.parts(), 4);
    }

    private static void promise7CopyOfFour() {
        DrawingForms d = new DrawingForms(20, 3);
        rowOf(d, 5, 0, 1, 2, 3, 4);
        rowOf(d, 7, 1, 1, 2, 3);
        d.encode();
        Check.due("three are no copy", d.parts(), 7);
        Check.due("three are no copy", Check.part(d, 4), "3 7 1 1 1 -1");
        d.put(10, 1, 4);
        Check.due("four are a copy", encoded(d),
                "1 0 3 5 0 1 1 3 6 0 1 2 3 7 0 1 3 3 8 0 1 4 2 7 1 4 2 1 0");
        Check.due("a copy's part", Check.part(d, 4), "2 7 1 4 -2 1");
        d.box(0, 0, 20, 3, 0);
        rowOf(d, 5, 0, 1, 2, 3, 4, 5);
        rowOf(d, 5, 1, 6, 2, 3, 4, 5);
        d.encode();
        Check.due("a copy is of the first on", Check.part(d, 5), "3 5 1 1 6 -1");
        Check.due("a copy begins where it is alike", Check.part(d, 6), "2 6 1 4 0 1");
    }

    private static void promise7CopyAgainstRun() {
        DrawingForms d = new DrawingForms(24, 4);
        rowOf(d, 0, 0, 5, 5, 5, 5);
        rowOf(d, 0, 1, 5, 5, 5, 5);
        d.put(0, 1, 6);
        d.put(1, 1, 6);
        d.put(0, 0, 6);
        d.put(1, 0, 6);
        d.encode();
        Check.due("a copy above the run", Check.part(d, 2), "2 0 1 4 0 1");
        d.box(0, 0, 24, 4, 0);
        rowOf(d, 0, 0, 5, 5, 5, 5);
        rowOf(d, 10, 1, 9, 9, 9);
        rowOf(d, 2, 2, 5, 5, 5, 5);
        d.encode();
        Check.due("no copy as long as the run", Check.part(d, 2), "3 2 2 4 5 -1");
        d.box(0, 0, 24, 4, 0);
        rowOf(d, 0, 0, 5, 5, 5, 5, 6);
        rowOf(d, 2, 2, 5, 5, 5, 5, 6);
        d.encode();
        Check.due("a copy one longer than the run", Check.part(d, 2), "2 2 2 5 -2 2");
    }

    private static void promise7FirstOfTheCopies() {
        DrawingForms d = new DrawingForms(24, 6);
        rowOf(d, 6, 0, 1, 2, 1, 2, 1, 2, 1, 2);
        rowOf(d, 6, 1, 1, 2, 1, 2, 1, 2, 1, 2);
        d.encode();
        Check.due("the first dx of the longest", Check.part(d, 8), "2 6 1 8 0 1");
        d.box(0, 1, 24, 1, 0);
        rowOf(d, 8, 1, 1, 2, 1, 2);
        d.encode();
        Check.due("of as long ones the least dx", Check.part(d, 8), "2 8 1 4 -2 1");
        d.box(0, 0, 24, 6, 0);
        rowOf(d, 2, 0, 1, 2, 3, 4);
        rowOf(d, 6, 1, 1, 2, 3, 4);
        rowOf(d, 4, 4, 1, 2, 3, 4);
        d.encode();
        Check.due("dx at its least", Check.part(d, 4), "2 6 1 4 -4 1");
        Check.due("of as long ones the least dy", Check.part(d, 5), "2 4 4 4 2 3");
        d.box(0, 0, 24, 6, 0);
        rowOf(d, 6, 0, 1, 2, 3, 4, 5);
        rowOf(d, 4, 3, 1, 2, 3, 4);
        rowOf(d, 2, 4, 1, 2, 3, 4, 5);
        d.encode();
        Check.due("dx and dy at their most", Check.part(d, 6), "2 2 4 5 4 4");
        d.box(0, 0, 24, 6, 0);
        rowOf(d, 6, 0, 1, 2, 3, 4);
        rowOf(d, 6, 5, 1, 2, 3, 4);
        rowOf(d, 20, 0, 5, 6, 7, 8);
        rowOf(d, 15, 1, 5, 6, 7, 8);
        d.encode();
        Check.due("five to the right or above are too far", d.parts(), 16);
    }

    private static void promise7CopyAcrossGround() {
        DrawingForms d = new DrawingForms(24, 3);
        rowOf(d, 2, 0, 1, 2, 0, 1, 2);
        rowOf(d, 2, 1, 1, 2, 0, 1, 2);
        d.encode();
        Check.due("a copy ends where samples are not open", d.parts(), 8);
        d.box(0, 0, 24, 3, 0);
        d.box(0, 0, 6, 1, 1);
        rowOf(d, 6, 0, 2, 3);
        rowOf(d, 4, 1, 1, 1, 2, 3);
        d.encode();
        Check.due("what a rectangle has may be copied", Check.part(d, 3), "2 4 1 4 0 1");
        d.box(0, 0, 24, 3, 0);
        rowOf(d, 3, 0, 1, 2, 3);
        d.box(6, 0, 6, 1, 3);
        rowOf(d, 3, 1, 1, 2);
        d.box(5, 1, 9, 1, 3);
        d.encode();
        Check.due("a copy ends where a rectangle begins", d.parts(), 6);
    }

    private static void promise7CopyEnds() {
        DrawingForms d = Check.drawn(
                Check.row(0, 0, 0, 0, 0, 0, 0, 0, 0, 1, 2, 3, 4),
                Check.row(0, 0, 0, 0, 0, 0, 0, 0, 1, 2, 3, 4, 1),
                Check.row(1, 2, 3, 4, 0, 0, 0, 0, 0, 0, 0, 0, 0),
                Check.row(2, 3, 4, 0, 0, 0, 0, 0, 0, 0, 0, 0, 0));
        d.encode();
        Check.due("a copy goes to the picture's side", Check.part(d, 4), "2 8 1 4 1 1");
        Check.due("no copy of what is outside", Check.part(d, 5), "3 12 1 1 1 -1");
        Check.due("no copy from the row before", Check.part(d, 6), "3 0 2 1 1 -1");
        Check.due("parts", d.parts(), 13);
    }

    private static void promise8ByteAt() {
        DrawingForms d = new DrawingForms(4, 4);
        Check.thrown("byteAt(0) before", INDEX, () -> d.byteAt(0));
        d.box(0, 0, 3, 2, 255);
        d.encode();
        Check.due("bytes of encode()", Check.bytes(d), "1 0 1 0 0 3 2 255 0");
        for (int i : new int[] {9, 10, -1, LEAST, MOST}) {
            Check.thrown("byteAt(" + i + ")", INDEX, () -> d.byteAt(i));
        }
        d.put(0, 0, 1);
        Check.due("bytes stay until the next telling", Check.bytes(d), "1 0 1 0 0 3 2 255 0");
        d.swap();
        d.change();
        Check.due("bytes of change()", Check.bytes(d), "0 0 3 1 255 255 0 1 3 255 255 255 255");
        Check.thrown("byteAt(13)", INDEX, () -> d.byteAt(13));
        d.encode();
        Check.due("bytes of a shorter telling", Check.bytes(d), "1 0 0");
        Check.thrown("byteAt(3)", INDEX, () -> d.byteAt(3));
    }

    private static void promise9And10Parts() {
        DrawingForms d = new DrawingForms(20, 3);
        Check.due("parts() before", d.parts(), 0);
        Check.thrown("part(0, 0) before", INDEX, () -> d.part(0, 0));
        d.box(0, 0, 4, 2, 9);
        rowOf(d, 5, 0, 1, 2, 3, 4);
        rowOf(d, 5, 2, 1, 2, 3, 4);
        Check.due("parts() before encode()", d.parts(), 0);
        d.encode();
        Check.due("parts()", d.parts(), 6);
        Check.due("a rectangle", Check.part(d, 0), "1 0 0 4 2 9");
        Check.due("a run", Check.part(d, 1), "3 5 0 1 1 -1");
        Check.due("a copy", Check.part(d, 5), "2 5 2 4 0 2");
        for (int k : new int[] {6, -1, LEAST, MOST}) {
            Check.thrown("part(" + k + ", 0)", INDEX, () -> d.part(k, 0));
            Check.thrown("part(" + k + ", 6)", INDEX, () -> d.part(k, 6));
        }
        for (int what : new int[] {6, -1, LEAST, MOST}) {
            Check.thrown("part(0, " + what + ")", ARGUMENT, () -> d.part(0, what));
            Check.thrown("part(5, " + what + ")", ARGUMENT, () -> d.part(5, what));
        }
        d.box(0, 0, 20, 3, 0);
        d.change();
        d.pass();
        d.apply();
        Check.due("parts() after change() and apply()", d.parts(), 6);
        Check.feed(d, 1, 0, 0);
        d.decode();
        Check.due("parts() after decode()", d.parts(), 6);
        d.encode();
        Check.due("parts() of the latest encode()", d.parts(), 0);
        Check.thrown("part(0, 0) of none", INDEX, () -> d.part(0, 0));
    }

    private static void promise11IsPlain() {
        DrawingForms d = new DrawingForms(2, 2);
        Check.due("isPlain() before", d.isPlain(), false);
        rowOf(d, 0, 0, 1, 2);
        Check.due("isPlain() before encode()", d.isPlain(), false);
        d.encode();
        Check.due("isPlain()", d.isPlain(), true);
        d.change();
        Check.due("isPlain() after change()", d.isPlain(), true);
        d.box(0, 0, 2, 2, 3);
        Check.due("isPlain() of the latest encode()", d.isPlain(), true);
        d.encode();
        Check.due("isPlain() of one value", d.isPlain(), false);
    }

    private static String encoded(DrawingForms d) {
        int length = d.encode();
        Check.due("encode() and told(2)", length, d.told(2));
        return Check.bytes(d);
    }

    private static void rowOf(DrawingForms d, int x, int y, int... values) {
        for (int i = 0; i < values.length; i++) {
            d.put(x + i, y, values[i]);
        }
    }
}
