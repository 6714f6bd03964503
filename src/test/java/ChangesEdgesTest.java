import java.util.Arrays;

/** The boundary cases of promises 15 and 16, each under the sentence that names it. */
public final class ChangesEdgesTest {
    public static void main(String[] args) {
        noChanges();
        oneSample();
        aWholeRow();
        noRunGoesOnInTheNextRow();
        runsAreAsLongAsCanBe();
        valuesAreOfTheSecond();
        theMostBytes();
        changeLeavesAllElse();
        changesAreTakenInTheirOrder();
        changesThatChangeWouldNotMake();
        samplesToldAreCounted();
        aRunsFirstByte255IsTheEnd();
        runsInThePicture();
        sizesAboveZero();
        tooFewBytes();
        tooManyBytes();
        placeOfTheFirstThingThatIsWrong();
        thePictureStays();
        theBytesGo();
        changeAndApplyMakeTheSecond();
        Check.end();
    }

    private static void noChanges() {
        Check.sentence("Terms: at the end 255");
        int[][] sizes = {{1, 1}, {24, 1}, {1, 24}, {24, 24}};
        for (int[] size : sizes) {
            DrawingForms d = new DrawingForms(size[0], size[1]);
            Check.due("change() of none", d.change(), 1);
            Check.due("change() of none", Check.bytes(d), "255");
            d.put(0, 0, 9);
            d.second(0, 0, 9);
            Check.due("change() of both changed alike", d.change(), 1);
            d.pass();
            Check.due("apply() of none", d.apply(), 0);
        }
    }

    private static void oneSample() {
        Check.sentence("Terms: samples where both differ");
        told("0 0 1 9 255", "9...", "....", "....");
        told("3 0 1 9 255", "...9", "....", "....");
        told("0 2 1 9 255", "....", "....", "9...");
        told("3 2 1 9 255", "....", "....", "...9");
        told("1 1 1 9 255", "....", ".9..", "....");
        told("0 0 1 9 255", "9");
        told("255", ".");
    }

    private static void aWholeRow() {
        Check.sentence("Terms: in runs of samples side by side in a row, as long as can be");
        told("0 0 4 1 2 3 4 255", "1234", "....");
        told("0 1 4 1 2 3 4 255", "....", "1234");
        told("0 0 3 1 2 3 255", "123.", "....");
        told("1 0 3 2 3 4 255", ".234", "....");
        DrawingForms wide = new DrawingForms(24, 2);
        wide.box(0, 1, 24, 1, 5);
        Check.due("24 samples", wide.change(), 28);
        Check.due("24 samples", Check.bytes(wide), "0 1 24" + " 0".repeat(24) + " 255");
        wide.second(0, 1, 5);
        Check.due("all but the first", wide.change(), 27);
        Check.due("all but the first", wide.byteAt(0), 1);
        Check.due("all but the first", wide.byteAt(2), 23);
        wide.second(0, 1, 0);
        wide.second(23, 1, 5);
        Check.due("all but the last", wide.change(), 27);
        Check.due("all but the last", wide.byteAt(0), 0);
        Check.due("all but the last", wide.byteAt(2), 23);
    }

    private static void noRunGoesOnInTheNextRow() {
        Check.sentence("Terms: in runs of samples side by side in a row");
        told("0 0 2 1 2 0 1 2 3 4 255", "12", "34");
        told("2 0 2 3 4 0 1 2 5 6 255", "..34", "56..");
        told("3 0 1 4 0 1 1 5 255", "...4", "5...");
        told("0 0 1 1 0 1 1 2 0 2 1 3 255", "1", "2", "3");
    }

    private static void runsAreAsLongAsCanBe() {
        Check.sentence("Terms: side by side in a row, as long as can be");
        told("0 0 2 1 2 3 0 2 4 5 255", "12.45");
        told("0 0 1 1 2 0 1 3 4 0 1 5 255", "1.3.5");
        told("1 0 1 2 3 0 1 4 255", ".2.4.");
        told("0 0 1 1 3 0 2 4 5 255", "1..45");
    }

    private static void valuesAreOfTheSecond() {
        Check.sentence("Terms: bytes x, y, n, and n values of the second one");
        DrawingForms d = Check.sketched("123");
        d.second(0, 0, 255);
        d.second(1, 0, 2);
        Check.due("change()", d.change(), 9);
        Check.due("change()", Check.bytes(d), "0 0 1 255 2 0 1 0 255");
        d.swap();
        Check.due("change() back", d.change(), 9);
        Check.due("change() back", Check.bytes(d), "0 0 1 1 2 0 1 3 255");
    }

    private static void theMostBytes() {
        Check.sentence("Promise 15: The changes are told: how many bytes");
        DrawingForms d = new DrawingForms(24, 24);
        for (int x = 0; x < 24; x += 2) {
            d.box(x, 0, 1, 24, 9);
        }
        Check.due("every second sample", d.change(), 24 * 12 * 4 + 1);
        d.box(23, 0, 1, 24, 9);
        Check.due("and the last ones too", d.change(), 24 * (11 * 4 + 5) + 1);
        Check.due("its end", d.byteAt(1176), 255);
        Check.due("none behind", Check.answer(() -> d.byteAt(1177)),
                "throws IndexOutOfBoundsException");
        d.box(0, 0, 24, 24, 9);
        Check.due("all samples", d.change(), 24 * 27 + 1);
        Check.due("told(2)", d.told(2), 24 * 27 + 1);
        d.pass();
        Check.due("apply()", d.apply(), 576);
        Check.due("the pictures are alike", d.swap(), 0);
    }

    private static void changeLeavesAllElse() {
        Check.sentence("Promise 15: The changes are told");
        DrawingForms d = Check.sketched("12", "34");
        d.second(0, 0, 7);
        d.encode();
        d.feed(255);
        d.change();
        Check.due("the picture", Check.picture(d), "1 2 / 3 4");
        Check.due("bytes to be read", d.told(3), 1);
        Check.due("parts()", d.parts(), 3);
        Check.due("isPlain()", d.isPlain(), true);
        Check.due("what was to be read", d.apply(), 0);
        d.swap();
        Check.due("the second", Check.picture(d), "7 0 / 0 0");
    }

    private static void changesAreTakenInTheirOrder() {
        Check.sentence("Promise 16: (in their order, also such as change() would not make)");
        becomes("8 4 4 / 4 4 4", 2, 0, 0, 1, 9, 0, 0, 1, 8, 255);
        becomes("9 8 8 / 4 4 4", 4, 0, 0, 2, 9, 9, 1, 0, 2, 8, 8, 255);
        becomes("9 9 8 / 4 4 4", 4, 1, 0, 2, 8, 8, 0, 0, 2, 9, 9, 255);
    }

    private static void changesThatChangeWouldNotMake() {
        Check.sentence("Promise 16: (in their order, also such as change() would not make)");
        becomes("4 4 4 / 4 4 4", 3, 0, 0, 3, 4, 4, 4, 255);
        becomes("9 8 4 / 4 4 4", 2, 0, 0, 1, 9, 1, 0, 1, 8, 255);
        becomes("9 4 4 / 4 4 8", 2, 2, 1, 1, 8, 0, 0, 1, 9, 255);
        becomes("9 4 8 / 4 4 4", 3, 0, 0, 3, 9, 4, 8, 255);
    }

    private static void samplesToldAreCounted() {
        Check.sentence("Promise 16: how many samples they tell");
        becomes("4 4 4 / 4 4 4", 0, 255);
        becomes("9 4 4 / 4 4 4", 1, 0, 0, 1, 9, 255);
        becomes("9 4 4 / 4 4 4", 3, 0, 0, 1, 9, 0, 0, 1, 9, 0, 0, 1, 9, 255);
        becomes("1 2 3 / 4 5 6", 6, 0, 0, 3, 1, 2, 3, 0, 1, 3, 4, 5, 6, 255);
        DrawingForms d = new DrawingForms(24, 24);
        for (int i = 0; i < 100; i++) {
            Check.feed(d, i % 24, i % 7, 1, 5);
        }
        d.feed(255);
        Check.due("a hundred runs", d.apply(), 100);
    }

    private static void aRunsFirstByte255IsTheEnd() {
        Check.sentence("Promise 16: (where a run's first byte is 255, that is the end)");
        becomes("4 4 4 / 4 4 4", 0, 255);
        refused("254 is none", -1, 254);
        refused("254 is none", -1, 254, 0, 1, 9, 255);
        becomes("255 255 255 / 4 4 4", 3, 0, 0, 3, 255, 255, 255, 255);
        refused("a value is no end", -7, 0, 0, 3, 255, 255, 255);
        refused("a second byte is no end", -1, 0, 255);
        refused("a third byte is no end", -1, 0, 0, 255);
    }

    private static void runsInThePicture() {
        Check.sentence("Promise 16 and Terms: are not all in the picture");
        int[][] right = {{0, 0, 1}, {2, 0, 1}, {0, 1, 1}, {2, 1, 1}, {0, 0, 3}, {1, 1, 2}};
        for (int[] r : right) {
            Check.due("run " + Arrays.toString(r), runAlone(r[0], r[1], r[2]), r[2]);
        }
        int[][] wrong = {{3, 0, 1}, {0, 2, 1}, {2, 0, 2}, {2, 1, 2}, {0, 0, 4}, {1, 1, 3}, {3, 1, 1},
            {254, 0, 1}, {0, 254, 1}, {0, 255, 1}, {0, 0, 24}, {0, 0, 254}, {0, 0, 255}};
        for (int[] r : wrong) {
            Check.due("run " + Arrays.toString(r), runAlone(r[0], r[1], r[2]), -1);
        }
    }

    private static int runAlone(int x, int y, int n) {
        DrawingForms d = new DrawingForms(3, 2);
        Check.feed(d, x, y, n);
        for (int i = 0; i < n; i++) {
            d.feed(9);
        }
        return read(d, 255);
    }

    private static void sizesAboveZero() {
        Check.sentence("Promise 16 and Terms: or a size is 0");
        becomes("9 4 4 / 4 4 4", 1, 0, 0, 1, 9, 255);
        refused("none", -1, 0, 0, 0, 255);
        refused("none, behind a run", -5, 0, 0, 1, 9, 1, 0, 0, 255);
    }

    private static void tooFewBytes() {
        Check.sentence("Promise 16: less the place where a run, or the end, should be");
        refused("nothing", -1);
        refused("x alone", -1, 0);
        refused("x and y", -1, 0, 0);
        refused("no value", -1, 0, 0, 1);
        refused("one value of two", -1, 0, 0, 2, 9);
        refused("no end", -5, 0, 0, 1, 9);
        refused("no end", -7, 0, 0, 3, 9, 9, 9);
        becomes("9 9 9 / 4 4 4", 3, 0, 0, 3, 9, 9, 9, 255);
        refused("x alone, behind a run", -5, 0, 0, 1, 9, 0);
        refused("x and y, behind a run", -5, 0, 0, 1, 9, 0, 1);
        refused("no value, behind a run", -5, 0, 0, 1, 9, 0, 1, 1);
        refused("the last value is no end", -10, 0, 0, 1, 9, 0, 1, 2, 9, 255);
    }

    private static void tooManyBytes() {
        Check.sentence("Promise 16: Refused likewise");
        refused("one behind the end", -2, 255, 0);
        refused("an end behind the end", -2, 255, 255);
        refused("a run behind the end", -2, 255, 0, 0, 1, 9, 255);
        refused("one behind a run and the end", -6, 0, 0, 1, 9, 255, 255);
        refused("many behind a run and the end", -6, 0, 0, 1, 9, 255, 1, 2, 3, 4);
    }

    private static void placeOfTheFirstThingThatIsWrong() {
        Check.sentence("Promise 16: less the place where a run, or the end, should be");
        refused("the first of two", -1, 3, 0, 1, 9, 0, 2, 1, 9, 255);
        refused("the second of two", -5, 0, 0, 1, 9, 0, 2, 1, 9, 255);
        refused("behind a run of two", -6, 0, 0, 2, 9, 9, 3, 0, 1, 9, 255);
        refused("behind two runs", -11, 0, 0, 3, 9, 9, 9, 1, 1, 1, 9, 3, 0, 1, 9, 255);
        refused("wrong, and too many", -1, 3, 0, 1, 9, 255, 255);
        refused("wrong, and too few", -1, 3, 0);
    }

    private static void thePictureStays() {
        Check.sentence("Promise 16 and 14: the picture stays");
        DrawingForms d = Check.sketched("123", "456");
        d.second(2, 1, 7);
        read(d, 0, 0, 3, 9, 9, 9, 0, 1, 4, 9, 9, 9, 9, 255);
        Check.due("the second run is wrong", Check.picture(d), "1 2 3 / 4 5 6");
        read(d, 0, 0, 3, 9, 9, 9);
        Check.due("no end", Check.picture(d), "1 2 3 / 4 5 6");
        read(d, 0, 0, 3, 9, 9, 9, 255, 0);
        Check.due("one too many", Check.picture(d), "1 2 3 / 4 5 6");
        read(d, 0, 0, 1, 8, 255);
        Check.due("a right one", Check.picture(d), "8 2 3 / 4 5 6");
        read(d, 1, 0, 2, 9, 9, 0);
        Check.due("a wrong one behind it", Check.picture(d), "8 2 3 / 4 5 6");
        d.swap();
        Check.due("the second", Check.picture(d), "0 0 0 / 0 0 7");
    }

    private static void theBytesGo() {
        Check.sentence("Promise 16: and go: how many samples they tell");
        DrawingForms d = new DrawingForms(3, 2);
        read(d, 0, 0, 1, 9, 255);
        Check.due("when they are taken", d.told(3), 0);
        read(d, 0, 0, 1, 9);
        Check.due("when they are refused", d.told(3), 0);
        Check.due("none are left", d.apply(), -1);
        Check.due("the next ones begin anew", read(d, 255), 0);
    }

    private static void changeAndApplyMakeTheSecond() {
        Check.sentence("Promise 16: The bytes that are to be read are taken as changes of the picture");
        DrawingForms d = Check.sketched("1234", "5678", "9..1");
        d.second(3, 0, 255);
        d.second(0, 1, 255);
        d.second(1, 1, 6);
        d.second(3, 2, 1);
        d.change();
        d.pass();
        Check.due("apply()", d.apply(), 8);
        Check.due("the picture", Check.picture(d), "0 0 0 255 / 255 6 0 0 / 0 0 0 1");
        Check.due("swap()", d.swap(), 0);
        d.put(0, 0, 3);
        Check.due("the pictures are two yet", d.swap(), 1);
    }

    /** The changes of a new picture, whose second one has these rows, are these bytes. */
    private static void told(String bytes, String... rows) {
        DrawingForms d = Check.sketched(rows);
        d.swap();
        Check.due(bytes + ": change()", d.change(), bytes.split(" ").length);
        Check.due(bytes + ": bytes", Check.bytes(d), bytes);
    }

    /** The bytes make this picture of one of 3 by 2 with the value 4, and tell so many samples. */
    private static void becomes(String picture, int samples, int... bytes) {
        DrawingForms d = new DrawingForms(3, 2);
        d.box(0, 0, 3, 2, 4);
        String what = Arrays.toString(bytes);
        Check.due(what, read(d, bytes), samples);
        Check.due(what + ": the picture", Check.picture(d), picture);
    }

    /** The bytes are refused for a picture of 3 by 2, with this answer, and the picture stays. */
    private static void refused(String what, int answer, int... bytes) {
        DrawingForms d = new DrawingForms(3, 2);
        d.box(0, 0, 3, 2, 4);
        String all = what + " " + Arrays.toString(bytes);
        Check.due(all, read(d, bytes), answer);
        Check.due(all + ": the picture", Check.picture(d), "4 4 4 / 4 4 4");
        Check.due(all + ": told(3)", d.told(3), 0);
    }

    private static int read(DrawingForms d, int... bytes) {
        Check.feed(d, bytes);
        return d.apply();
    }
}
