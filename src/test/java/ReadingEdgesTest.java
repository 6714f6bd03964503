import java.util.Arrays;

/** The boundary cases of promises 12 to 14, each under the sentence that names it. */
public final class ReadingEdgesTest {
    private static final String NO_BYTE = "throws IllegalArgumentException";
    private static final String TOO_MANY = "throws UnsupportedOperationException";
    private static final String NOT_ALL = "Terms: or a part's samples (or those that are copied) are "
            + "not all in the picture";
    private static final String FIRST_WRONG = "Promise 14: less the place of the byte with which the "
            + "first thing that is wrong begins";
    private static final int LEAST = Integer.MIN_VALUE;
    private static final int MOST = Integer.MAX_VALUE;

    public static void main(String[] args) {
        feedNeedsAByte();
        feedGoesTo4000();
        passGoesTo4000();
        passIsOfWhatWasToldLast();
        partsCoverWhatWasThere();
        copiesTakeWhatIsThere();
        partsThatEncodeWouldNotMake();
        partsAreCounted();
        formsThatCouldBe();
        kindsThatCouldBe();
        rectanglesInThePicture();
        runsInThePicture();
        copiesInThePicture();
        copiedSamplesInThePicture();
        sizesAboveZero();
        dyFromOneToFour();
        byteOfDxUpToEight();
        plainOfTooFewOrTooMany();
        partsOfTooFewOrTooMany();
        placeOfThePartThatIsCutShort();
        placeOfThePartThatIsWrong();
        placeOfTheFirstThingThatIsWrong();
        thePictureStays();
        theBytesGo();
        Check.end();
    }

    private static void feedNeedsAByte() {
        Check.sentence("Promise 12: IllegalArgument: it is not 0 .. 255");
        DrawingForms d = new DrawingForms(2, 2);
        Check.due("feed(0)", Check.answer(() -> d.feed(0)), "1");
        Check.due("feed(255)", Check.answer(() -> d.feed(255)), "2");
        for (int b : new int[] {-1, 256, 257, -255, LEAST, MOST}) {
            Check.due("feed(" + b + ")", Check.answer(() -> d.feed(b)), NO_BYTE);
        }
        Check.due("told(3)", d.told(3), 2);
    }

    private static void feedGoesTo4000() {
        Check.sentence("Promise 12: UnsupportedOperation: there are 4000");
        DrawingForms d = Check.filled(9);
        for (int i = 3601; i < 3999; i++) {
            d.feed(0);
        }
        Check.due("the byte 3999", Check.answer(() -> d.feed(1)), "3999");
        Check.due("the byte 4000", Check.answer(() -> d.feed(1)), "4000");
        Check.due("the byte 4001", Check.answer(() -> d.feed(1)), TOO_MANY);
        Check.due("no byte", Check.answer(() -> d.feed(256)), NO_BYTE);
        Check.due("told(3)", d.told(3), 4000);
        Check.due("apply() up to the end of the first 400", d.apply(), -1 - 400);
        Check.due("a byte when they are gone", Check.answer(() -> d.feed(1)), "1");
    }

    private static void passGoesTo4000() {
        Check.sentence("Promise 13: UnsupportedOperation: they would be above 4000");
        DrawingForms full = Check.filled(9);
        Check.due("3600 and 400", Check.answer(() -> full.pass()), "4000");
        Check.due("4000 and 400", Check.answer(() -> full.pass()), TOO_MANY);
        Check.due("told(3)", full.told(3), 4000);
        full.swap();
        full.box(0, 0, 18, 19, 1);
        full.change();
        Check.due("4000 and 1", Check.answer(() -> full.pass()), TOO_MANY);
        Check.due("decode() of a plain one with 343 bytes due", full.decode(), -1 - 343);
        Check.due("0 and 1", Check.answer(() -> full.pass()), "1");
        DrawingForms more = Check.filled(9);
        more.feed(0);
        Check.due("3601 and 400", Check.answer(() -> more.pass()), TOO_MANY);
        Check.due("told(3)", more.told(3), 3601);
        more.encode();
        Check.due("3601 and 3", Check.answer(() -> more.pass()), "3604");
    }

    private static void passIsOfWhatWasToldLast() {
        Check.sentence("Promise 13: All bytes that were told last are to be read, behind those");
        DrawingForms d = new DrawingForms(2, 2);
        Check.due("nothing was told", d.pass(), 0);
        d.feed(0);
        Check.due("nothing was told", d.pass(), 1);
        d.decode();
        d.box(0, 0, 2, 2, 7);
        d.encode();
        Check.feed(d, 1, 0, 3, 0, 0);
        Check.due("behind five", d.pass(), 8);
        d.box(0, 0, 2, 2, 8);
        d.encode();
        Check.due("what was passed stays as it was: 1, of 7, and the end", d.decode(), 1);
        Check.due("the picture", Check.picture(d), "7 0 / 0 0");
        Check.due("told last is the second encode()", Check.bytes(d), "1 8 0");
        d.pass();
        d.decode();
        Check.due("the picture", Check.picture(d), "8 8 / 8 8");
        d.change();
        Check.due("told last is change()", d.pass(), 11);
        Check.due("apply()", d.apply(), 4);
        Check.due("the picture", Check.picture(d), "0 0 / 0 0");
    }

    private static void partsCoverWhatWasThere() {
        Check.sentence("Terms: each of which covers what was there");
        becomes("7 7 7 / 7 7 7", 0, 1, 7, 0);
        becomes("9 9 7 / 9 9 7", 1, 1, 7, 1, 0, 0, 2, 2, 9, 0);
        becomes("9 8 8 / 9 8 8", 2, 1, 7, 1, 0, 0, 2, 2, 9, 1, 1, 0, 2, 2, 8, 0);
        becomes("9 9 8 / 9 9 8", 2, 1, 7, 1, 1, 0, 2, 2, 8, 1, 0, 0, 2, 2, 9, 0);
        becomes("9 6 6 / 9 9 7", 2, 1, 7, 1, 0, 0, 2, 2, 9, 3, 1, 0, 2, 6, 0);
        becomes("6 6 7 / 6 6 7", 3, 1, 7, 3, 0, 0, 1, 6, 3, 0, 0, 2, 6, 2, 0, 1, 2, 4, 1, 0);
        becomes("7 7 7 / 7 7 7", 2, 1, 5, 3, 0, 0, 1, 6, 1, 0, 0, 3, 2, 7, 0);
    }

    private static void copiesTakeWhatIsThere() {
        Check.sentence("Terms: a copy is made sample by sample, from the first on");
        becomes("1 2 0 / 0 1 2", 3, 1, 0, 3, 0, 0, 1, 1, 3, 1, 0, 1, 2, 2, 1, 1, 2, 3, 1, 0);
        becomes("1 2 0 / 2 0 0", 3, 1, 0, 3, 0, 0, 1, 1, 3, 1, 0, 1, 2, 2, 0, 1, 2, 5, 1, 0);
        becomes("1 0 0 / 0 0 0", 2, 1, 0, 2, 0, 1, 3, 4, 1, 3, 0, 0, 1, 1, 0);
        DrawingForms d = new DrawingForms(1, 6);
        Check.due("a copy of copies, and 4 above",
                read(d, 1, 0, 3, 0, 1, 1, 9, 2, 0, 2, 1, 4, 1, 2, 0, 3, 1, 4, 1, 2, 0, 5, 1, 4, 4, 0),
                4);
        Check.due("the picture", Check.picture(d), "0 / 9 / 9 / 9 / 0 / 9");
    }

    private static void partsThatEncodeWouldNotMake() {
        Check.sentence("Terms: then parts in order (also such as encode() would not make)");
        becomes("7 7 7 / 7 7 7", 1, 1, 7, 3, 0, 0, 1, 7, 0);
        becomes("8 7 7 / 7 7 7", 1, 1, 7, 1, 0, 0, 1, 1, 8, 0);
        becomes("7 7 7 / 8 8 8", 1, 1, 7, 1, 0, 1, 3, 1, 8, 0);
        becomes("7 7 7 / 7 7 7", 1, 1, 7, 2, 2, 1, 1, 4, 1, 0);
        becomes("8 8 8 / 8 8 8", 1, 1, 7, 1, 0, 0, 3, 2, 8, 0);
        becomes("7 7 7 / 7 7 7", 0, 0, 7, 7, 7, 7, 7, 7);
        DrawingForms d = new DrawingForms(24, 1);
        Check.due("a run of 24", read(d, 1, 7, 3, 0, 0, 24, 8, 0), 1);
        Check.due("its last sample", d.at(23, 0), 8);
    }

    private static void partsAreCounted() {
        Check.sentence("Promise 14: how many parts (a plain one has 0)");
        DrawingForms d = new DrawingForms(24, 24);
        for (int parts : new int[] {0, 1, 2, 20, 60}) {
            Check.feed(d, 1, 0);
            for (int i = 0; i < parts; i++) {
                Check.feed(d, 3, 0, i % 24, 1, 9);
            }
            d.feed(0);
            Check.due(parts + " parts", d.decode(), parts);
        }
        DrawingForms plain = Check.sketched("12", "34");
        plain.encode();
        Check.due("encode() made some", plain.parts(), 3);
        plain.pass();
        Check.due("a plain one", plain.decode(), 0);
        Check.due("parts() is of encode() yet", plain.parts(), 3);
    }

    private static void formsThatCouldBe() {
        Check.sentence("Terms: It is REFUSED, if a byte is none that could be");
        becomes("1 2 3 / 4 5 6", 0, 0, 1, 2, 3, 4, 5, 6);
        becomes("2 2 2 / 2 2 2", 0, 1, 2, 0);
        for (int form : new int[] {2, 3, 4, 254, 255}) {
            refused("the form " + form, -1, form, 1, 2, 3, 4, 5, 6);
            refused("the form " + form, -1, form, 2, 0);
            refused("the form " + form, -1, form);
        }
        becomes("255 255 255 / 255 255 255", 0, 1, 255, 0);
        becomes("0 0 0 / 0 0 0", 0, 1, 0, 0);
    }

    private static void kindsThatCouldBe() {
        Check.sentence("Terms: It is REFUSED, if a byte is none that could be");
        becomes("2 2 2 / 2 2 2", 0, 1, 2, 0);
        becomes("1 2 2 / 2 2 2", 1, 1, 2, 1, 0, 0, 1, 1, 1, 0);
        becomes("2 2 2 / 2 2 2", 1, 1, 2, 2, 0, 1, 1, 4, 1, 0);
        becomes("1 2 2 / 2 2 2", 1, 1, 2, 3, 0, 0, 1, 1, 0);
        for (int kind : new int[] {4, 5, 254, 255}) {
            refused("the kind " + kind, -3, 1, 2, kind, 0, 1, 1, 4, 1, 0);
            refused("the kind " + kind, -3, 1, 2, kind, 0, 1, 1, 4, 0);
            refused("the kind " + kind, -3, 1, 2, kind);
        }
    }

    private static void rectanglesInThePicture() {
        Check.sentence(NOT_ALL);
        int[][] right = {{0, 0, 1, 1}, {4, 0, 1, 1}, {0, 3, 1, 1}, {4, 3, 1, 1}, {0, 0, 5, 4},
            {1, 1, 4, 3}, {0, 3, 5, 1}, {4, 0, 1, 4}};
        for (int[] r : right) {
            accepted(1, r[0], r[1], r[2], r[3], 9);
        }
        int[][] wrong = {{5, 0, 1, 1}, {0, 4, 1, 1}, {0, 0, 6, 4}, {0, 0, 5, 5}, {1, 1, 5, 3},
            {1, 1, 4, 4}, {4, 0, 2, 1}, {0, 3, 1, 2}, {0, 3, 6, 1}, {4, 0, 1, 5}, {5, 4, 1, 1},
            {255, 0, 1, 1}, {0, 255, 1, 1}, {0, 0, 255, 1}, {0, 0, 1, 255}, {255, 255, 255, 255}};
        for (int[] r : wrong) {
            rejected(1, r[0], r[1], r[2], r[3], 9);
        }
    }

    private static void runsInThePicture() {
        Check.sentence(NOT_ALL);
        int[][] right = {{0, 0, 1}, {4, 0, 1}, {0, 3, 1}, {4, 3, 1}, {0, 0, 5}, {1, 3, 4}};
        for (int[] r : right) {
            accepted(3, r[0], r[1], r[2], 9);
        }
        int[][] wrong = {{5, 0, 1}, {0, 4, 1}, {4, 3, 2}, {0, 0, 6}, {1, 3, 5}, {255, 0, 1},
            {0, 255, 1}, {0, 0, 255}, {255, 255, 255}};
        for (int[] r : wrong) {
            rejected(3, r[0], r[1], r[2], 9);
        }
    }

    private static void copiesInThePicture() {
        Check.sentence(NOT_ALL);
        int[][] right = {{0, 1, 1}, {4, 1, 1}, {0, 3, 1}, {4, 3, 1}, {0, 1, 5}, {1, 3, 4}};
        for (int[] c : right) {
            accepted(2, c[0], c[1], c[2], 4, 1);
        }
        // The samples that these would copy, one to the left or right and one above, are there.
        int[][] wrong = {{5, 1, 1, 3, 1}, {0, 4, 1, 4, 1}, {4, 1, 2, 3, 1}, {1, 3, 5, 3, 1},
            {4, 4, 1, 4, 1}, {255, 1, 1, 0, 1}, {0, 255, 1, 4, 1}, {0, 1, 255, 4, 1}};
        for (int[] c : wrong) {
            rejected(2, c);
        }
    }

    private static void copiedSamplesInThePicture() {
        Check.sentence(NOT_ALL);
        int[][] right = {{0, 1, 1, 4, 1}, {1, 1, 1, 3, 1}, {4, 1, 1, 0, 1}, {3, 1, 1, 5, 1},
            {0, 1, 1, 8, 1}, {0, 1, 4, 5, 1}, {1, 1, 4, 3, 1}, {0, 3, 5, 4, 3}, {0, 2, 5, 4, 2},
            {1, 2, 2, 6, 1}};
        for (int[] c : right) {
            accepted(2, c);
        }
        int[][] wrong = {{0, 1, 1, 3, 1}, {3, 1, 1, 0, 1}, {4, 1, 1, 5, 1}, {1, 1, 1, 8, 1},
            {0, 1, 5, 5, 1}, {0, 1, 5, 3, 1}, {1, 1, 4, 5, 1}, {0, 0, 1, 4, 1}, {0, 1, 5, 4, 2},
            {0, 2, 5, 4, 3}, {0, 3, 5, 4, 4}, {1, 2, 3, 6, 1}, {4, 3, 1, 8, 3}};
        for (int[] c : wrong) {
            rejected(2, c);
        }
    }

    private static void sizesAboveZero() {
        Check.sentence("Terms: or a size is 0");
        accepted(1, 2, 2, 1, 1, 9);
        rejected(1, 2, 2, 0, 1, 9);
        rejected(1, 2, 2, 1, 0, 9);
        rejected(1, 2, 2, 0, 0, 9);
        accepted(2, 2, 2, 1, 4, 1);
        rejected(2, 2, 2, 0, 4, 1);
        accepted(3, 2, 2, 1, 9);
        rejected(3, 2, 2, 0, 9);
        accepted(3, 2, 2, 1, 0);
        accepted(1, 0, 0, 1, 1, 0);
    }

    private static void dyFromOneToFour() {
        Check.sentence("Terms: or dy is 0 or above 4");
        for (int dy = 0; dy <= 7; dy++) {
            DrawingForms d = new DrawingForms(5, 8);
            Check.due("dy " + dy, read(d, 1, 7, 2, 2, 7, 1, 4, dy, 0),
                    dy >= 1 && dy <= 4 ? 1 : -3);
        }
        for (int dy : new int[] {8, 252, 255}) {
            Check.due("dy " + dy, read(new DrawingForms(24, 24), 1, 7, 2, 2, 23, 1, 4, dy, 0), -3);
        }
    }

    private static void byteOfDxUpToEight() {
        Check.sentence("Terms: or the byte of dx above 8");
        for (int dx = 0; dx <= 11; dx++) {
            DrawingForms d = new DrawingForms(24, 2);
            d.box(0, 0, 24, 1, 7);
            Check.due("the byte of dx " + dx, read(d, 1, 7, 2, 10, 1, 1, dx, 1, 0),
                    dx <= 8 ? 1 : -3);
        }
        Check.due("the byte of dx 255", read(new DrawingForms(24, 2), 1, 7, 2, 0, 1, 1, 255, 1, 0),
                -3);
        DrawingForms d = new DrawingForms(9, 2);
        Check.due("all of them", read(d, 1, 0, 3, 0, 0, 1, 1, 3, 8, 0, 1, 2, 2, 4, 1, 1, 0, 1,
                2, 0, 1, 1, 8, 1, 2, 5, 1, 1, 7, 1, 0), 5);
        Check.due("byte 0 is 4 to the left, 8 is 4 to the right", Check.picture(d),
                "1 0 0 0 0 0 0 0 2 / 0 0 0 0 1 2 0 0 0");
    }

    private static void plainOfTooFewOrTooMany() {
        Check.sentence("Promise 14: the first byte that is too much; or where another one lacks");
        refused("nothing", -1);
        refused("no sample", -2, 0);
        refused("one of six", -3, 0, 1);
        refused("five of six", -7, 0, 1, 2, 3, 4, 5);
        becomes("1 2 3 / 4 5 6", 0, 0, 1, 2, 3, 4, 5, 6);
        refused("seven of six", -8, 0, 1, 2, 3, 4, 5, 6, 7);
        refused("eight of six", -8, 0, 1, 2, 3, 4, 5, 6, 7, 8);
        refused("twice", -8, 0, 1, 2, 3, 4, 5, 6, 0, 1, 2, 3, 4, 5, 6);
        DrawingForms large = new DrawingForms(20, 20);
        for (int i = 0; i < 400; i++) {
            large.put(i % 20, i / 20, (i * 7 + i / 37) % 256);
        }
        Check.due("encode() of a large plain one", large.encode(), 401);
        large.pass();
        large.put(19, 19, 1);
        Check.due("a large plain one", large.decode(), 0);
        Check.due("its last sample", large.at(19, 19), (399 * 7 + 399 / 37) % 256);
        large.pass();
        large.feed(0);
        Check.due("a large plain one and a byte", large.decode(), -1 - 401);
    }

    private static void partsOfTooFewOrTooMany() {
        Check.sentence("Promise 14: the first byte that is too much; or where another one lacks");
        refused("no ground", -2, 1);
        refused("no part and no end", -3, 1, 7);
        becomes("7 7 7 / 7 7 7", 0, 1, 7, 0);
        refused("one behind the end", -4, 1, 7, 0, 0);
        refused("one behind the end", -4, 1, 7, 0, 1);
        refused("many behind the end", -4, 1, 7, 0, 3, 0, 0, 1, 9, 0);
        refused("no end behind a rectangle", -9, 1, 7, 1, 0, 0, 1, 1, 9);
        refused("no end behind a copy", -9, 1, 7, 2, 0, 1, 1, 4, 1);
        refused("no end behind a run", -8, 1, 7, 3, 0, 0, 1, 9);
        becomes("9 7 7 / 7 7 7", 1, 1, 7, 3, 0, 0, 1, 9, 0);
        refused("one behind the end", -9, 1, 7, 3, 0, 0, 1, 9, 0, 0);
        refused("one behind the end", -10, 1, 7, 1, 0, 0, 1, 1, 9, 0, 255);
        refused("one behind the end", -10, 1, 7, 2, 0, 1, 1, 4, 1, 0, 255);
    }

    private static void placeOfThePartThatIsCutShort() {
        Check.sentence("Promise 14: (a part's first byte, also if the part is cut short");
        int[][] parts = {{1, 0, 0, 1, 1, 9}, {2, 0, 1, 1, 4, 1}, {3, 0, 0, 1, 9}};
        for (int[] part : parts) {
            for (int left = 1; left < part.length; left++) {
                int[] bytes = Arrays.copyOf(new int[] {1, 7}, 2 + left);
                System.arraycopy(part, 0, bytes, 2, left);
                refused("kind " + part[0] + " with " + left + " bytes", -3, bytes);
                bytes = Arrays.copyOf(new int[] {1, 7, 3, 0, 0, 3, 8}, 7 + left);
                System.arraycopy(part, 0, bytes, 7, left);
                refused("kind " + part[0] + " with " + left + " bytes, behind a run", -8, bytes);
            }
        }
        refused("cut short, and wrong too", -3, 1, 7, 1, 9, 9);
        refused("its last byte is the end no more", -3, 1, 7, 1, 0, 0, 1, 0);
    }

    private static void placeOfThePartThatIsWrong() {
        Check.sentence(FIRST_WRONG);
        refused("behind a rectangle", -9, 1, 7, 1, 0, 0, 3, 2, 8, 3, 0, 0, 4, 9, 0);
        refused("behind a copy", -9, 1, 7, 2, 0, 1, 3, 4, 1, 3, 0, 0, 4, 9, 0);
        refused("behind a run", -8, 1, 7, 3, 0, 0, 3, 8, 3, 0, 0, 4, 9, 0);
        refused("behind all three", -20,
                1, 7, 1, 0, 0, 3, 2, 8, 2, 0, 1, 3, 4, 1, 3, 0, 0, 3, 8, 1, 0, 0, 4, 1, 9, 0);
        refused("its kind, behind a run", -8, 1, 7, 3, 0, 0, 3, 8, 4, 0);
    }

    private static void placeOfTheFirstThingThatIsWrong() {
        Check.sentence(FIRST_WRONG);
        refused("two wrong parts", -3, 1, 7, 3, 0, 0, 4, 9, 3, 0, 2, 1, 9, 0);
        refused("a wrong part, and no end", -3, 1, 7, 3, 0, 0, 4, 9);
        refused("a wrong part, and too many", -3, 1, 7, 3, 0, 0, 4, 9, 0, 0);
        refused("a wrong part, then one cut short", -3, 1, 7, 3, 0, 0, 4, 9, 3, 0);
        refused("too many, of which none is a part", -4, 1, 7, 0, 4, 0);
        refused("a wrong form, and too many", -1, 2, 7, 0, 0, 0, 0, 0, 0, 0, 0);
    }

    private static void thePictureStays() {
        Check.sentence("Promise 14: the picture stays");
        DrawingForms d = Check.sketched("123", "456");
        d.second(0, 0, 9);
        d.encode();
        read(d, 1, 7, 1, 0, 0, 3, 2, 8, 4);
        Check.due("drawn before it was refused", Check.picture(d), "1 2 3 / 4 5 6");
        read(d, 0, 9, 9, 9, 9, 9);
        Check.due("plain, one too few", Check.picture(d), "1 2 3 / 4 5 6");
        read(d, 0, 9, 9, 9, 9, 9, 9, 9);
        Check.due("plain, one too many", Check.picture(d), "1 2 3 / 4 5 6");
        read(d, 1, 7, 0, 0);
        Check.due("a ground, one too many", Check.picture(d), "1 2 3 / 4 5 6");
        Check.due("what was told", Check.bytes(d), "0 1 2 3 4 5 6");
        Check.due("the second", d.swap(), 6);
        Check.due("the second", Check.picture(d), "9 0 0 / 0 0 0");
    }

    private static void theBytesGo() {
        Check.sentence("Promise 14: The bytes that are to be read make the picture, and go");
        DrawingForms d = new DrawingForms(3, 2);
        read(d, 1, 7, 0);
        Check.due("when they make it", d.told(3), 0);
        read(d, 1, 7, 0, 0);
        Check.due("when they are refused", d.told(3), 0);
        Check.due("none are left", d.decode(), -1);
        Check.due("the next ones begin anew", read(d, 1, 8, 0), 0);
        Check.due("the picture", Check.picture(d), "8 8 8 / 8 8 8");
    }

    /** The bytes make this picture of 3 by 2, with so many parts. */
    private static void becomes(String picture, int parts, int... bytes) {
        DrawingForms d = new DrawingForms(3, 2);
        d.box(0, 0, 3, 2, 4);
        String what = Arrays.toString(bytes);
        Check.due(what, read(d, bytes), parts);
        Check.due(what + ": the picture", Check.picture(d), picture);
    }

    /** The bytes are refused for a picture of 3 by 2, with this answer, and the picture stays. */
    private static void refused(String what, int answer, int... bytes) {
        DrawingForms d = new DrawingForms(3, 2);
        d.box(0, 0, 3, 2, 4);
        String all = what + " " + Arrays.toString(bytes);
        Check.due(all, read(d, bytes), answer);
        Check.due(all + ": the picture", Check.picture(d), "4 4 4 / 4 4 4");
        Check.due(all + ": told(3)", d.told(3), 0);
    }

    /** Such a part may be, alone in a picture of 5 by 4. */
    private static void accepted(int kind, int... part) {
        Check.due("kind " + kind + " " + Arrays.toString(part), partAlone(kind, part), 1);
    }

    private static void rejected(int kind, int... part) {
        Check.due("kind " + kind + " " + Arrays.toString(part), partAlone(kind, part), -3);
    }

    private static int partAlone(int kind, int... part) {
        DrawingForms d = new DrawingForms(5, 4);
        Check.feed(d, 1, 7, kind);
        Check.feed(d, part);
        return read(d, 0);
    }

    private static int read(DrawingForms d, int... bytes) {
        Check.feed(d, bytes);
        return d.decode();
    }
}
