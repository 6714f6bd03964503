/** Promises 15 and 16: what makes one drawing of another. */
public final class ChangesTest {
    public static void main(String[] args) {
        promise15Change();
        promise15Longest();
        promise16Apply();
        promise16Refused();
        promise16RefusedRuns();
        Check.end();
    }

    private static void promise15Change() {
        DrawingForms d = new DrawingForms(5, 3);
        Check.due("change() of none", d.change(), 1);
        Check.due("bytes", Check.bytes(d), "255");
        d.second(1, 0, 7);
        d.second(2, 0, 255);
        d.second(4, 0, 6);
        d.second(0, 1, 5);
        d.put(2, 1, 8);
        d.put(4, 2, 8);
        d.second(4, 2, 8);
        Check.due("change()", d.change(), 18);
        Check.due("bytes", Check.bytes(d), "1 0 2 7 255 4 0 1 6 0 1 1 5 2 1 1 0 255");
        Check.due("the picture stays", Check.picture(d), "0 0 0 0 0 / 0 0 8 0 0 / 0 0 0 0 8");
        d.swap();
        Check.due("change() back", d.change(), 18);
        Check.due("bytes", Check.bytes(d), "1 0 2 0 0 4 0 1 0 0 1 1 0 2 1 1 8 255");
        d.clear();
        d.box(0, 0, 5, 3, 1);
        Check.due("a run ends with its row", d.change(), 25);
        Check.due("bytes", Check.bytes(d),
                "0 0 5 0 0 0 0 0 0 1 5 0 0 0 0 0 0 2 5 0 0 0 0 0 255");
    }

    /** Twelve runs in each row, of which the last has two samples: no changes are longer. */
    private static void promise15Longest() {
        DrawingForms d = new DrawingForms(24, 24);
        for (int x = 0; x < 24; x += 2) {
            d.box(x, 0, 1, 24, 9);
        }
        d.box(23, 0, 1, 24, 8);
        Check.due("the longest change()", d.change(), 1177);
        Check.due("its last run", d.byteAt(1171), 22);
        Check.due("its last run", d.byteAt(1172), 23);
        Check.due("its last run", d.byteAt(1173), 2);
        Check.due("its end", d.byteAt(1176), 255);
        Check.due("pass()", d.pass(), 1177);
        Check.due("apply()", d.apply(), 312);
        Check.due("all is made", d.swap(), 0);
        DrawingForms one = new DrawingForms(1, 1);
        one.put(0, 0, 1);
        Check.due("change() of one sample", one.change(), 5);
        Check.due("bytes", Check.bytes(one), "0 0 1 0 255");
    }

    private static void promise16Apply() {
        DrawingForms d = new DrawingForms(4, 2);
        d.put(3, 1, 6);
        Check.due("no changes", read(d, 255), 0);
        Check.due("the picture", Check.picture(d), "0 0 0 0 / 0 0 0 6");
        Check.due("over one another, what is so, and out of order",
                read(d, 0, 1, 3, 1, 2, 3, 1, 1, 2, 9, 3, 0, 0, 1, 0, 3, 0, 1, 255, 255), 7);
        Check.due("the picture", Check.picture(d), "0 0 0 255 / 1 9 3 6");
        Check.due("side by side", read(d, 0, 0, 1, 7, 1, 0, 1, 7, 255), 2);
        Check.due("the picture", Check.picture(d), "7 7 0 255 / 1 9 3 6");
        Check.due("255 among values is no end", read(d, 0, 0, 4, 255, 255, 255, 255, 255), 4);
        Check.due("the picture", Check.picture(d), "255 255 255 255 / 1 9 3 6");
        Check.due("the second stays", d.swap(), 8);
        Check.due("the second", Check.picture(d), "0 0 0 0 / 0 0 0 0");
        Check.due("the bytes are gone", d.told(3), 0);
    }

    private static void promise16Refused() {
        DrawingForms d = new DrawingForms(4, 2);
        d.put(0, 0, 5);
        Check.due("nothing", d.apply(), -1);
        Check.due("no end", read(d, 0, 0, 1, 9), -5);
        Check.due("a byte behind the end", read(d, 255, 255), -2);
        Check.due("more bytes behind the end", read(d, 0, 0, 1, 9, 255, 0, 0, 1, 9, 255), -6);
        Check.due("the second run is wrong", read(d, 0, 0, 1, 9, 0, 2, 1, 9, 255), -5);
        Check.due("the second run is cut short", read(d, 0, 0, 1, 9, 1), -5);
        Check.due("the second run lacks a value", read(d, 0, 0, 1, 9, 1, 1, 3, 9, 9), -5);
        Check.due("the second run has no value", read(d, 0, 0, 4, 9, 9, 9, 9, 1, 1, 1), -8);
        Check.due("the first of two wrong ones", read(d, 9, 0, 1, 9, 0, 0, 1, 9, 255, 3), -1);
        Check.due("the bytes are gone", d.told(3), 0);
        Check.due("the picture stays", Check.picture(d), "5 0 0 0 / 0 0 0 0");
        Check.due("a right one", read(d, 1, 0, 1, 9, 255), 1);
        Check.due("a wrong one behind it", read(d, 0, 0, 2, 1, 1, 9), -6);
        Check.due("the picture stays", Check.picture(d), "5 9 0 0 / 0 0 0 0");
    }

    private static void promise16RefusedRuns() {
        int[][] wrong = {{4, 0, 1, 9, 255}, {254, 0, 1, 9, 255}, {0, 2, 1, 9, 255},
            {0, 255, 1, 9, 255}, {0, 0, 0, 255}, {3, 0, 2, 9, 9, 255}, {0, 0, 5, 9, 9, 9, 9, 9, 255},
            {0, 0, 255, 9, 255}, {0}, {0, 0}, {0, 0, 1}, {0, 0, 3, 9, 9}, {0, 0, 3, 9}};
        for (int[] bytes : wrong) {
            DrawingForms d = new DrawingForms(4, 2);
            Check.due("run of " + bytes.length + " bytes at " + bytes[0], read(d, bytes), -1);
            Check.due("the picture stays", Check.picture(d), "0 0 0 0 / 0 0 0 0");
        }
        Check.due("the last value is the end no more",
                read(new DrawingForms(4, 2), 0, 0, 2, 9, 255), -6);
    }

    private static int read(DrawingForms d, int... bytes) {
        Check.feed(d, bytes);
        return d.apply();
    }
}
