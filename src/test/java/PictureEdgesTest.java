/** The boundary cases of promises 1 to 6, 17 and 18, each under the sentence that names it. */
public final class PictureEdgesTest {
    private static final String NO_SAMPLE = "throws IndexOutOfBoundsException";
    private static final String NO_NUMBER = "throws IllegalArgumentException";
    private static final int LEAST = Integer.MIN_VALUE;
    private static final int MOST = Integer.MAX_VALUE;

    public static void main(String[] args) {
        sidesOutsideCountAsTheNearest();
        bothPicturesHaveTheSize();
        bothPicturesAreZeroAtFirst();
        samplesGoRowByRow();
        putNeedsASample();
        putNeedsAValue();
        putTellsWhetherItWasAnother();
        boxGoesAsFarAsThePicture();
        boxTellsHowManyHadAnother();
        boxNeedsASample();
        boxNeedsAValue();
        boxNeedsSides();
        atNeedsASample();
        secondNeedsASample();
        secondNeedsAValue();
        secondTellsWhetherItWasAnother();
        swapTellsHowManyDiffer();
        swapChangesPlaces();
        toldHasFiveThings();
        toldCountsBytes();
        groundIsOfMost();
        groundIsTheLeastOfThese();
        groundIsOfThePictureAsItIs();
        clearIsAsAtFirst();
        clearEndsWhatWasRead();
        clearEndsWhatIsFull();
        Check.end();
    }

    private static void sidesOutsideCountAsTheNearest() {
        Check.sentence("Promise 1: 1 .. 24 (other numbers count as the nearest of these)");
        int[][] sides = {{LEAST, 1}, {-24, 1}, {-1, 1}, {0, 1}, {1, 1}, {2, 2}, {23, 23}, {24, 24},
            {25, 24}, {256, 24}, {MOST, 24}};
        for (int[] side : sides) {
            for (int other : new int[] {1, 7, 24}) {
                hasSize(side[0], other, side[1], other);
                hasSize(other, side[0], other, side[1]);
            }
            hasSize(side[0], side[0], side[1], side[1]);
        }
        hasSize(LEAST, MOST, 1, 24);
        hasSize(MOST, LEAST, 24, 1);
    }

    private static void hasSize(int width, int height, int w, int h) {
        DrawingForms d = new DrawingForms(width, height);
        String made = "new DrawingForms(" + width + ", " + height + "): ";
        Check.due(made + "told(0)", d.told(0), w);
        Check.due(made + "told(1)", d.told(1), h);
        Check.due(made + "its last sample", Check.answer(() -> d.at(w - 1, h - 1)), "0");
        Check.due(made + "right of it", Check.answer(() -> d.at(w, h - 1)), NO_SAMPLE);
        Check.due(made + "below it", Check.answer(() -> d.at(w - 1, h)), NO_SAMPLE);
        Check.due(made + "a box of all", d.box(0, 0, MOST, MOST, 9), w * h);
    }

    private static void bothPicturesHaveTheSize() {
        Check.sentence("Terms: there is a SECOND picture of the same size, likewise");
        int[][] sizes = {{1, 1}, {24, 1}, {1, 24}, {24, 24}, {5, 3}};
        for (int[] size : sizes) {
            int w = size[0];
            int h = size[1];
            DrawingForms d = new DrawingForms(w, h);
            Check.due("the second's last sample", Check.answer(() -> d.second(w - 1, h - 1, 0)),
                    "false");
            Check.due("right of it", Check.answer(() -> d.second(w, h - 1, 0)), NO_SAMPLE);
            Check.due("below it", Check.answer(() -> d.second(w - 1, h, 0)), NO_SAMPLE);
            d.swap();
            Check.due("width when swapped", d.told(0), w);
            Check.due("height when swapped", d.told(1), h);
            Check.due("a box of all when swapped", d.box(0, 0, 24, 24, 1), w * h);
            Check.due("right of it when swapped", Check.answer(() -> d.at(w, 0)), NO_SAMPLE);
            Check.due("below it when swapped", Check.answer(() -> d.at(0, h)), NO_SAMPLE);
        }
    }

    private static void bothPicturesAreZeroAtFirst() {
        Check.sentence("Promise 1: and the value 0 everywhere");
        for (int side : new int[] {2, 24}) {
            DrawingForms d = new DrawingForms(side, side);
            Check.due("change() of a new object", d.change(), 1);
            Check.due("box of 0", d.box(0, 0, side, side, 0), 0);
            Check.due("encode() of a new object", d.encode(), 3);
            Check.due("its bytes", Check.bytes(d), "1 0 0");
            Check.due("swap() of a new object", d.swap(), 0);
            Check.due("box of 0 in the second", d.box(0, 0, side, side, 0), 0);
        }
    }

    private static void samplesGoRowByRow() {
        Check.sentence("Terms: Samples go row by row");
        DrawingForms d = Check.sketched("12", "34", "56");
        Check.due("encode()", d.encode(), 7);
        Check.due("a plain one", Check.bytes(d), "0 1 2 3 4 5 6");
        DrawingForms end = Check.sketched("......1", "2......");
        end.encode();
        Check.due("a row's last sample comes before the next row's first", Check.bytes(end),
                "1 0 3 6 0 1 1 3 0 1 1 2 0");
    }

    /** Samples just inside (expected to be there) and just outside of a picture of 4 by 3. */
    private static final int[][] INSIDE = {{0, 0}, {3, 0}, {0, 2}, {3, 2}, {1, 1}};
    private static final int[][] OUTSIDE = {{-1, 0}, {-1, 1}, {-1, 2}, {4, 0}, {4, 1}, {4, 2},
        {0, -1}, {3, -1}, {0, 3}, {3, 3}, {-1, -1}, {4, 3}, {-1, 3}, {4, -1}, {LEAST, 0}, {MOST, 0},
        {0, LEAST}, {0, MOST}, {LEAST, LEAST}, {MOST, MOST}, {LEAST, MOST}, {MOST, LEAST},
        {1 << 30, 1 << 30}, {0, 1 << 30}};

    private static void putNeedsASample() {
        Check.sentence("Promise 2 and Terms: IndexOutOfBounds: there is no such sample");
        DrawingForms d = new DrawingForms(4, 3);
        for (int[] at : INSIDE) {
            Check.due("put at " + at[0] + ", " + at[1],
                    Check.answer(() -> d.put(at[0], at[1], 5)), "true");
        }
        for (int[] at : OUTSIDE) {
            Check.due("put at " + at[0] + ", " + at[1],
                    Check.answer(() -> d.put(at[0], at[1], 6)), NO_SAMPLE);
        }
        Check.due("the picture", Check.picture(d), "5 0 0 5 / 0 5 0 0 / 5 0 0 5");
    }

    private static void putNeedsAValue() {
        Check.sentence("Terms: A SAMPLE has a VALUE 0 .. 255");
        DrawingForms d = new DrawingForms(2, 1);
        Check.due("put of 255", Check.answer(() -> d.put(0, 0, 255)), "true");
        for (int v : new int[] {256, -1, 257, 511, LEAST, MOST}) {
            Check.due("put of " + v, Check.answer(() -> d.put(0, 0, v)), NO_NUMBER);
        }
        Check.due("the picture", Check.picture(d), "255 0");
        Check.due("put of 0", Check.answer(() -> d.put(0, 0, 0)), "true");
    }

    private static void putTellsWhetherItWasAnother() {
        Check.sentence("Promise 2: A sample's value, of the picture: whether it was another one");
        DrawingForms d = new DrawingForms(3, 2);
        Check.due("0 to 0", d.put(2, 1, 0), false);
        Check.due("0 to 255", d.put(2, 1, 255), true);
        Check.due("255 to 255", d.put(2, 1, 255), false);
        Check.due("255 to 254", d.put(2, 1, 254), true);
        Check.due("254 to 0", d.put(2, 1, 0), true);
        d.put(1, 0, 7);
        Check.due("the one sample alone", Check.picture(d), "0 7 0 / 0 0 0");
        Check.due("of the picture alone", d.swap(), 1);
        Check.due("the second", Check.picture(d), "0 0 0 / 0 0 0");
    }

    private static void boxGoesAsFarAsThePicture() {
        Check.sentence("Promise 3: All samples of a rectangle, as far as it is in the picture");
        boxed(0, 0, 4, 3, 12, "9 9 9 9 / 9 9 9 9 / 9 9 9 9");
        boxed(0, 0, 5, 4, 12, "9 9 9 9 / 9 9 9 9 / 9 9 9 9");
        boxed(0, 0, 3, 2, 6, "9 9 9 0 / 9 9 9 0 / 0 0 0 0");
        boxed(1, 1, 2, 1, 2, "0 0 0 0 / 0 9 9 0 / 0 0 0 0");
        boxed(1, 1, 3, 2, 6, "0 0 0 0 / 0 9 9 9 / 0 9 9 9");
        boxed(1, 1, 4, 3, 6, "0 0 0 0 / 0 9 9 9 / 0 9 9 9");
        boxed(1, 1, MOST, MOST, 6, "0 0 0 0 / 0 9 9 9 / 0 9 9 9");
        boxed(1, 1, MOST, 1, 3, "0 0 0 0 / 0 9 9 9 / 0 0 0 0");
        boxed(1, 1, 1, MOST, 2, "0 0 0 0 / 0 9 0 0 / 0 9 0 0");
        boxed(3, 2, 1, 1, 1, "0 0 0 0 / 0 0 0 0 / 0 0 0 9");
        boxed(3, 2, 2, 2, 1, "0 0 0 0 / 0 0 0 0 / 0 0 0 9");
        boxed(3, 2, MOST, MOST, 1, "0 0 0 0 / 0 0 0 0 / 0 0 0 9");
        boxed(3, 0, 2, 1, 1, "0 0 0 9 / 0 0 0 0 / 0 0 0 0");
    }

    private static void boxed(int x, int y, int w, int h, int changed, String picture) {
        DrawingForms d = new DrawingForms(4, 3);
        String call = "box(" + x + ", " + y + ", " + w + ", " + h + ", 9)";
        Check.due(call, d.box(x, y, w, h, 9), changed);
        Check.due(call + ": the picture", Check.picture(d), picture);
        Check.due(call + ": the picture alone", d.swap(), changed);
    }

    private static void boxTellsHowManyHadAnother() {
        Check.sentence("Promise 3: have a value: how many had another one");
        DrawingForms d = Check.sketched("5...", ".5..", "..5.");
        Check.due("some have it", d.box(0, 0, 3, 3, 5), 6);
        Check.due("all have it", d.box(0, 0, 3, 3, 5), 0);
        Check.due("one is another", d.box(2, 2, 2, 1, 5), 1);
        Check.due("none has it", d.box(0, 0, 3, 3, 6), 9);
        Check.due("outside none counts", d.box(3, 0, 9, 2, 6), 2);
        Check.due("to 0", d.box(0, 0, 4, 3, 0), 12);
        Check.due("0 to 0", d.box(0, 0, 4, 3, 0), 0);
    }

    private static void boxNeedsASample() {
        Check.sentence("Promise 3 and Terms: IndexOutOfBounds: there is no such sample");
        DrawingForms d = new DrawingForms(4, 3);
        for (int[] at : OUTSIDE) {
            Check.due("box at " + at[0] + ", " + at[1],
                    Check.answer(() -> d.box(at[0], at[1], 2, 2, 6)), NO_SAMPLE);
            Check.due("a large box at " + at[0] + ", " + at[1],
                    Check.answer(() -> d.box(at[0], at[1], MOST, MOST, 6)), NO_SAMPLE);
        }
        Check.due("the picture", Check.picture(d), "0 0 0 0 / 0 0 0 0 / 0 0 0 0");
        for (int[] at : INSIDE) {
            Check.due("box at " + at[0] + ", " + at[1],
                    Check.answer(() -> d.box(at[0], at[1], 1, 1, 6)), "1");
        }
        Check.due("the picture", Check.picture(d), "6 0 0 6 / 0 6 0 0 / 6 0 0 6");
    }

    private static void boxNeedsAValue() {
        Check.sentence("Terms: IllegalArgument: another number is none that is told");
        DrawingForms d = new DrawingForms(2, 2);
        Check.due("box of 255", Check.answer(() -> d.box(0, 0, 2, 2, 255)), "4");
        for (int v : new int[] {256, -1, LEAST, MOST}) {
            Check.due("box of " + v, Check.answer(() -> d.box(0, 0, 2, 2, v)), NO_NUMBER);
        }
        Check.due("the picture", Check.picture(d), "255 255 / 255 255");
        Check.due("box of 0", Check.answer(() -> d.box(0, 0, 2, 2, 0)), "4");
    }

    private static void boxNeedsSides() {
        Check.sentence("Promise 3: IllegalArgument: also if its width or height is below 1");
        DrawingForms d = new DrawingForms(4, 3);
        for (int side : new int[] {0, -1, -4, LEAST}) {
            for (int other : new int[] {1, 4, MOST, 0}) {
                Check.due("box of width " + side + " and height " + other,
                        Check.answer(() -> d.box(1, 1, side, other, 6)), NO_NUMBER);
                Check.due("box of width " + other + " and height " + side,
                        Check.answer(() -> d.box(1, 1, other, side, 6)), NO_NUMBER);
            }
        }
        Check.due("the picture", Check.picture(d), "0 0 0 0 / 0 0 0 0 / 0 0 0 0");
        Check.due("box of 1 by 1", Check.answer(() -> d.box(1, 1, 1, 1, 6)), "1");
    }

    private static void atNeedsASample() {
        Check.sentence("Promise 4 and Terms: IndexOutOfBounds: there is no such sample");
        DrawingForms d = Check.sketched("1..2", ".3..", "4..5");
        String[] values = {"1", "2", "4", "5", "3"};
        for (int i = 0; i < INSIDE.length; i++) {
            int[] at = INSIDE[i];
            Check.due("at " + at[0] + ", " + at[1], Check.answer(() -> d.at(at[0], at[1])),
                    values[i]);
        }
        for (int[] at : OUTSIDE) {
            Check.due("at " + at[0] + ", " + at[1], Check.answer(() -> d.at(at[0], at[1])),
                    NO_SAMPLE);
        }
    }

    private static void secondNeedsASample() {
        Check.sentence("Promise 5 and Terms: IndexOutOfBounds: there is no such sample");
        DrawingForms d = new DrawingForms(4, 3);
        for (int[] at : OUTSIDE) {
            Check.due("second at " + at[0] + ", " + at[1],
                    Check.answer(() -> d.second(at[0], at[1], 6)), NO_SAMPLE);
        }
        for (int[] at : INSIDE) {
            Check.due("second at " + at[0] + ", " + at[1],
                    Check.answer(() -> d.second(at[0], at[1], 5)), "true");
        }
        d.swap();
        Check.due("the second", Check.picture(d), "5 0 0 5 / 0 5 0 0 / 5 0 0 5");
    }

    private static void secondNeedsAValue() {
        Check.sentence("Promise 5 and Terms: IllegalArgument: another number is none that is told");
        DrawingForms d = new DrawingForms(2, 1);
        Check.due("second of 255", Check.answer(() -> d.second(1, 0, 255)), "true");
        for (int v : new int[] {256, -1, LEAST, MOST}) {
            Check.due("second of " + v, Check.answer(() -> d.second(1, 0, v)), NO_NUMBER);
        }
        d.swap();
        Check.due("the second", Check.picture(d), "0 255");
        d.swap();
        Check.due("second of 0", Check.answer(() -> d.second(1, 0, 0)), "true");
    }

    private static void secondTellsWhetherItWasAnother() {
        Check.sentence(
                "Promise 5: A sample's value, of the second picture: whether it was another one");
        DrawingForms d = new DrawingForms(3, 2);
        d.put(2, 1, 255);
        Check.due("0 to 0", d.second(2, 1, 0), false);
        Check.due("0 to 255", d.second(2, 1, 255), true);
        Check.due("255 to 255", d.second(2, 1, 255), false);
        Check.due("255 to 254", d.second(2, 1, 254), true);
        Check.due("the picture is as it was", Check.picture(d), "0 0 0 / 0 0 255");
        Check.due("254 to 0", d.second(2, 1, 0), true);
        d.swap();
        Check.due("the second", Check.picture(d), "0 0 0 / 0 0 0");
    }

    private static void swapTellsHowManyDiffer() {
        Check.sentence("Promise 6: in how many samples they differ");
        DrawingForms d = new DrawingForms(24, 24);
        Check.due("none", d.swap(), 0);
        d.put(0, 0, 1);
        Check.due("the first", d.swap(), 1);
        d.put(23, 23, 255);
        Check.due("the first and the last", d.swap(), 2);
        d.box(0, 0, 24, 24, 7);
        Check.due("all", d.swap(), 576);
        Check.due("all, back", d.swap(), 576);
        d.second(23, 23, 7);
        Check.due("all but one", d.swap(), 575);
    }

    private static void swapChangesPlaces() {
        Check.sentence("Promise 6: The picture and the second one change their places");
        DrawingForms d = Check.sketched("12", "34");
        d.second(1, 1, 9);
        d.swap();
        Check.due("the picture", Check.picture(d), "0 0 / 0 9");
        d.put(0, 0, 8);
        d.second(0, 1, 7);
        Check.due("the picture", Check.picture(d), "8 0 / 0 9");
        d.swap();
        Check.due("the picture", Check.picture(d), "1 2 / 7 4");
        d.swap();
        Check.due("the picture", Check.picture(d), "8 0 / 0 9");
    }

    private static void toldHasFiveThings() {
        Check.sentence("Promise 17: NONE for another what");
        DrawingForms d = new DrawingForms(3, 2);
        d.box(0, 0, 3, 2, 6);
        d.encode();
        d.pass();
        d.feed(0);
        int[] things = {3, 2, 3, 4, 6};
        for (int what = 0; what < things.length; what++) {
            Check.due("told(" + what + ")", d.told(what), things[what]);
        }
        for (int what : new int[] {-1, 5, -2, 6, 256, LEAST, MOST}) {
            Check.due("told(" + what + ")", d.told(what), DrawingForms.NONE);
        }
    }

    private static void toldCountsBytes() {
        Check.sentence("Promise 17: bytes told last (2), bytes to be read (3)");
        DrawingForms d = new DrawingForms(24, 24);
        Check.due("told(2) at first", d.told(2), 0);
        Check.due("told(3) at first", d.told(3), 0);
        d.box(0, 0, 24, 24, 1);
        d.change();
        Check.due("told(2) after a long change()", d.told(2), 24 * 27 + 1);
        d.encode();
        Check.due("told(2) after a short encode()", d.told(2), 3);
        Check.due("told(3) as none was passed", d.told(3), 0);
        d.pass();
        d.pass();
        Check.due("told(3) after two", d.told(3), 6);
        Check.due("told(2) as none was told", d.told(2), 3);
        d.apply();
        Check.due("told(3) after a refused one", d.told(3), 0);
        Check.due("told(2) after a refused one", d.told(2), 3);
        d.swap();
        Check.due("told(2) after swap()", d.told(2), 3);
    }

    private static void groundIsOfMost() {
        Check.sentence("Terms: GROUND is the value that most samples have");
        DrawingForms d = Check.sketched("999", "999", "8..");
        Check.due("6 of 9", d.told(4), 9);
        d.box(0, 0, 3, 1, 8);
        Check.due("4 of 8, 3 of 9, 2 of 0", d.told(4), 8);
        d.put(0, 0, 0);
        Check.due("3 of 8, 3 of 9, 3 of 0", d.told(4), 0);
        d.put(1, 0, 255);
        d.put(2, 0, 255);
        d.put(0, 2, 255);
        d.put(1, 2, 255);
        Check.due("4 of 255, 3 of 9, 2 of 0", d.told(4), 255);
        d.encode();
        Check.due("the one part of value 0", d.part(0, 4), 0);
        Check.due("one sample alone", Check.sketched("7").told(4), 7);
        DrawingForms large = new DrawingForms(24, 24);
        large.box(0, 0, 24, 12, 255);
        large.put(0, 12, 255);
        Check.due("289 of 576", large.told(4), 255);
    }

    private static void groundIsTheLeastOfThese() {
        Check.sentence("Terms: that most samples have, of these the least");
        DrawingForms large = new DrawingForms(24, 24);
        large.box(0, 0, 24, 12, 255);
        Check.due("288 of 255, 288 of 0", large.told(4), 0);
        large.box(0, 12, 24, 12, 254);
        Check.due("288 of 255, 288 of 254", large.told(4), 254);
        large.encode();
        Check.due("such a ground is told", large.byteAt(1), 254);
        Check.due("the rest is the part", Check.parts(large), "1 0 0 24 12 255");
        Check.due("of three as frequent", Check.sketched("987", "789").told(4), 7);
        Check.due("the greatest has one more", Check.sketched("98879", "99787").told(4), 9);
        Check.due("none is there twice", Check.sketched("54", "32").told(4), 2);
        Check.due("the least of all is less frequent", Check.sketched("5.4", "545").told(4), 5);
        Check.due("two of the least are no more", Check.sketched("1122").told(4), 1);
        Check.due("in another order", Check.sketched("2211").told(4), 1);
    }

    private static void groundIsOfThePictureAsItIs() {
        Check.sentence("Promise 17: the ground of the picture as it is (4)");
        DrawingForms d = new DrawingForms(2, 2);
        d.box(0, 0, 2, 2, 3);
        Check.due("not told yet", d.told(4), 3);
        d.encode();
        d.box(0, 0, 2, 2, 4);
        Check.due("told before as another", d.told(4), 4);
        d.swap();
        Check.due("of the second", d.told(4), 0);
        Check.feed(d, 1, 9, 0);
        Check.due("of what is to be read not yet", d.told(4), 0);
        d.decode();
        Check.due("of what was read", d.told(4), 9);
        Check.feed(d, 1, 8, 0, 0);
        d.decode();
        Check.due("of what was refused not", d.told(4), 9);
        Check.due("told(4) tells no bytes", Check.bytes(d), "1 3 0");
        Check.due("told(4) makes no parts", d.parts(), 0);
    }

    private static void clearIsAsAtFirst() {
        Check.sentence("Promise 18: All is as at first");
        DrawingForms d = Check.sketched("123", "456");
        d.second(2, 1, 9);
        d.encode();
        d.pass();
        d.clear();
        asAtFirst("after encode()", d, 3, 2);
        d.put(2, 1, 9);
        d.swap();
        d.put(0, 0, 9);
        d.change();
        d.pass();
        d.clear();
        asAtFirst("after swap() and change()", d, 3, 2);
        DrawingForms none = new DrawingForms(24, 1);
        none.clear();
        asAtFirst("of a new object", none, 24, 1);
        none.clear();
        none.clear();
        asAtFirst("twice", none, 24, 1);
    }

    private static void clearEndsWhatWasRead() {
        Check.sentence("Promise 18: All is as at first");
        DrawingForms d = new DrawingForms(3, 2);
        Check.feed(d, 0, 1, 2, 3, 4, 5, 6);
        d.decode();
        d.clear();
        asAtFirst("after decode()", d, 3, 2);
        Check.feed(d, 0, 0, 3, 1, 1, 1, 255);
        d.apply();
        d.clear();
        asAtFirst("after apply()", d, 3, 2);
        Check.feed(d, 1, 8, 3, 0, 0, 3, 9, 4);
        d.decode();
        d.clear();
        asAtFirst("after a refused decode()", d, 3, 2);
        Check.feed(d, 0, 0, 3, 1, 1, 1, 0);
        d.apply();
        d.clear();
        asAtFirst("after a refused apply()", d, 3, 2);
    }

    private static void clearEndsWhatIsFull() {
        Check.sentence("Promise 18: All is as at first");
        DrawingForms d = Check.filled(10);
        d.clear();
        Check.due("told(3) of what was full", d.told(3), 0);
        Check.due("a byte may come again", Check.answer(() -> d.feed(7)), "1");
    }

    private static void asAtFirst(String when, DrawingForms d, int width, int height) {
        String clear = "clear() " + when + ": ";
        int[] things = {width, height, 0, 0, 0};
        for (int what = 0; what < things.length; what++) {
            Check.due(clear + "told(" + what + ")", d.told(what), things[what]);
        }
        Check.due(clear + "parts()", d.parts(), 0);
        Check.due(clear + "part(0, 0)", Check.answer(() -> d.part(0, 0)), NO_SAMPLE);
        Check.due(clear + "isPlain()", d.isPlain(), false);
        Check.due(clear + "byteAt(0)", Check.answer(() -> d.byteAt(0)), NO_SAMPLE);
        Check.due(clear + "pass()", d.pass(), 0);
        Check.due(clear + "decode()", d.decode(), -1);
        Check.due(clear + "apply()", d.apply(), -1);
        Check.due(clear + "the picture's other samples", d.box(0, 0, 24, 24, 0), 0);
        Check.due(clear + "swap()", d.swap(), 0);
        Check.due(clear + "the second's other samples", d.box(0, 0, 24, 24, 0), 0);
    }
}
