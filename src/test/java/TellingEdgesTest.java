/** The boundary cases of promises 7 to 11, each under the sentence that names it. */
public final class TellingEdgesTest {
    private static final String NONE_SUCH = "throws IndexOutOfBoundsException";
    private static final String NO_NUMBER = "throws IllegalArgumentException";
    private static final int LEAST = Integer.MIN_VALUE;
    private static final int MOST = Integer.MAX_VALUE;

    public static void main(String[] args) {
        groundIsNoPart();
        rectanglesHaveSixSamples();
        rectanglesHaveTheMostSamples();
        rectanglesAreTheWidestOfThese();
        rectanglesBeginWithTheirSample();
        rectanglesAreOfOneValue();
        rectanglesAreOpen();
        rectanglesGoToTheSides();
        rectanglesComeInOrder();
        copiesHaveFourSamples();
        copiesAreLongerThanTheRun();
        copiesAreFromFourAbove();
        copiesAreFromFourAside();
        copiesAreTheGreatest();
        copiesAreTheFirstOfThese();
        copiesAreOfWhatIsInThePicture();
        copiesReachTheSides();
        copiesEndWithWhatIsOpen();
        copiesAreOfAnySample();
        runsAreOfOpenSamples();
        bytesOfEachKind();
        plainIfMoreThanTheSamples();
        encodeLeavesAllElse();
        byteAtNeedsAByte();
        byteAtIsOfWhatWasToldLast();
        bytesOfFewerPartsThanBefore();
        partsAreOfTheLatestEncode();
        partNeedsAPart();
        partNeedsAThing();
        partsThingsOfEachKind();
        isPlainIsOfTheLatestEncode();
        Check.end();
    }

    private static void groundIsNoPart() {
        Check.sentence("Terms: OPEN are samples with another value");
        for (int v : new int[] {0, 1, 255}) {
            DrawingForms d = new DrawingForms(24, 24);
            d.box(0, 0, 24, 24, v);
            Check.due("encode() of one value", d.encode(), 3);
            Check.due("its bytes", Check.bytes(d), "1 " + v + " 0");
            Check.due("its parts", d.parts(), 0);
            d.put(23, 23, 7);
            Check.due("encode() with another one", d.encode(), 8);
            Check.due("its bytes", Check.bytes(d), "1 " + v + " 3 23 23 1 7 0");
        }
        Check.due("0 is open where it is not the ground", partsOf("77777.7777", "7777777777"),
                "3 5 0 1 0 -1");
    }

    private static void rectanglesHaveSixSamples() {
        Check.sentence("Terms: if that has 6 samples or more, it is a part");
        int[][] sides = {{6, 1}, {1, 6}, {3, 2}, {2, 3}, {7, 1}, {1, 7}, {4, 2}};
        for (int[] side : sides) {
            Check.due("a box of " + side[0] + " by " + side[1], partsOfBox(side[0], side[1]),
                    "1 1 2 " + side[0] + " " + side[1] + " 5");
        }
        Check.due("a box of 5 by 1", partsOfBox(5, 1), "3 1 2 5 5 -1");
        Check.due("a box of 4 by 1", partsOfBox(4, 1), "3 1 2 4 5 -1");
        Check.due("a box of 2 by 2", partsOfBox(2, 2), "3 1 2 2 5 -1 / 3 1 3 2 5 -1");
        Check.due("a box of 1 by 5", partsOfBox(1, 5), "3 1 2 1 5 -1 / 3 1 3 1 5 -1 / "
                + "3 1 4 1 5 -1 / 3 1 5 1 5 -1 / 3 1 6 1 5 -1");
        Check.due("six that are no rectangle", partsOf("55...", "555..", "5....", "....."),
                "3 0 0 2 5 -1 / 3 0 1 3 5 -1 / 3 0 2 1 5 -1");
    }

    private static void rectanglesHaveTheMostSamples() {
        Check.sentence("Terms: that with the most samples");
        Check.due("7 below one another, 6 side by side",
                partsOf("444444.", "4......", "4......", "4......", "4......", "4......", "4......"),
                "1 0 0 1 7 4 / 3 1 0 5 4 -1");
        Check.due("7 side by side, 6 below one another",
                partsOf("4444444", "4......", "4......", "4......", "4......", "4......"),
                "1 0 0 7 1 4 / 3 0 1 1 4 -1 / 3 0 2 1 4 -1 / 3 0 3 1 4 -1 / 3 0 4 1 4 -1 / "
                + "3 0 5 1 4 -1");
        Check.due("8 as 4 by 2, 7 side by side", partsOf("4444444.", "4444....", "........"),
                "1 0 0 4 2 4 / 3 4 0 3 4 -1");
        Check.due("9 as 3 by 3, 8 as 4 by 2, 7 as 7 by 1",
                partsOf("4444444.", "4444....", "444.....", "........", "........"),
                "1 0 0 3 3 4 / 3 3 0 4 4 -1 / 3 3 1 1 4 -1");
    }

    private static void rectanglesAreTheWidestOfThese() {
        Check.sentence("Terms: that with the most samples, of these the widest");
        Check.due("6 by 1, 3 by 2, 2 by 3 and 1 by 6",
                partsOf("444444", "444...", "44....", "4.....", "4.....", "4....."),
                "1 0 0 6 1 4 / 3 0 1 3 4 -1 / 3 0 2 2 4 -1 / 3 0 3 1 4 -1 / 3 0 4 1 4 -1 / "
                + "3 0 5 1 4 -1");
        Check.due("3 by 2 and 2 by 3", partsOf("444...", "444...", "44....", "......"),
                "1 0 0 3 2 4 / 3 0 2 2 4 -1");
        Check.due("2 by 3 and 1 by 6",
                partsOf("44....", "44....", "44....", "4.....", "4.....", "4....."),
                "1 0 0 2 3 4 / 3 0 3 1 4 -1 / 3 0 4 1 4 -1 / 3 0 5 1 4 -1");
        Check.due("4 by 2 and 2 by 4", partsOf("4444....", "4444....", "44......", "44......"),
                "1 0 0 4 2 4 / 3 0 2 2 4 -1 / 3 0 3 2 4 -1");
        Check.due("one row more for the narrow one",
                partsOf("4444....", "4444....", "44......", "44......", "44......"),
                "1 0 0 2 5 4 / 3 2 0 2 4 -1 / 3 2 1 2 4 -1");
    }

    private static void rectanglesBeginWithTheirSample() {
        Check.sentence("Terms: of all rectangles of which it is the first sample");
        Check.due("its second row goes on to the left",
                partsOf("..444...", "444444..", "........", "........"),
                "1 2 0 3 2 4 / 3 0 1 2 4 -1 / 3 5 1 1 4 -1");
        Check.due("too few for the first sample, not for a later one",
                partsOf("...4....", ".444444.", "........", "........"),
                "1 1 1 6 1 4 / 3 3 0 1 4 -1");
        Check.due("what the first leaves over begins anew",
                partsOf("4444444444", "4444444444", "..44444444", "..........", "..........",
                        "..........", ".........."),
                "1 0 0 10 2 4 / 1 2 2 8 1 4");
    }

    private static void rectanglesAreOfOneValue() {
        Check.sentence("Terms: and all samples are open and have its value");
        Check.due("another value ends its row",
                partsOf("44454444444", "44444......", "..........."),
                "1 0 0 3 2 4 / 1 4 0 7 1 4 / 3 3 0 1 5 -1 / 3 3 1 2 4 -1");
        Check.due("another value in the second row",
                partsOf("444444", "444544", "......", "......"),
                "1 0 0 6 1 4 / 3 0 1 3 4 -1 / 3 3 1 1 5 -1 / 3 4 1 2 4 -1");
        Check.due("two values side by side", partsOf("444555", "444555", "......", "......"),
                "1 0 0 3 2 4 / 1 3 0 3 2 5");
        Check.due("two values below one another", partsOf("444444", "555555", "......"),
                "1 0 0 6 1 4 / 1 0 1 6 1 5");
    }

    private static void rectanglesAreOpen() {
        Check.sentence("Terms: OPEN are samples with another value that no part has yet");
        Check.due("the ground ends it", partsOf("444.444", "444.444", ".......", "......."),
                "1 0 0 3 2 4 / 1 4 0 3 2 4");
        Check.due("what a rectangle has ends another",
                partsOf("..444....", "..444....", "444444444", "444444444", ".........",
                        ".........", ".........", "........."),
                "1 2 0 3 4 4 / 1 5 2 4 2 4 / 3 0 2 2 4 -1 / 3 0 3 2 4 -1");
    }

    private static void rectanglesGoToTheSides() {
        Check.sentence("Terms: of all rectangles of which it is the first sample");
        Check.due("the right side", partsOf("...444", "...444", "......"), "1 3 0 3 2 4");
        Check.due("no row goes on in the next", partsOf("...444", "444...", "......"),
                "3 3 0 3 4 -1 / 3 0 1 3 4 -1");
        Check.due("the last row", partsOf(".......", ".......", ".444444"), "1 1 2 6 1 4");
        Check.due("the last column", partsOf("...", "..4", "..4", "..4", "..4", "..4", "..4"),
                "1 2 1 1 6 4");
        Check.due("the last row of a high picture",
                partsOf("...", "...", "...", "...", "...", "444", "444"), "1 0 5 3 2 4");
        DrawingForms half = new DrawingForms(24, 24);
        half.box(0, 12, 24, 12, 255);
        half.encode();
        Check.due("half of the largest picture", Check.parts(half), "1 0 12 24 12 255");
    }

    private static void rectanglesComeInOrder() {
        Check.sentence("Terms: RECTANGLES: for each sample in order that is open");
        Check.due("row by row, before all else",
                partsOf("1.....222", "......222", "555......", "555.....1", "........."),
                "1 6 0 3 2 2 / 1 0 2 3 2 5 / 3 0 0 1 1 -1 / 3 8 3 1 1 -1");
    }

    private static void copiesHaveFourSamples() {
        Check.sentence("Terms: If c is 4 or more, and above r: a COPY of c samples");
        Check.due("3", lastPartOf("123.......", "123......."), "3 2 1 1 3 -1");
        Check.due("4", lastPartOf("1234......", "1234......"), "2 0 1 4 0 1");
        Check.due("5", lastPartOf("12345.....", "12345....."), "2 0 1 5 0 1");
        Check.due("3 and another one", partsOf("7654......", "7653......"),
                "3 0 0 1 7 -1 / 3 1 0 1 6 -1 / 3 2 0 1 5 -1 / 3 3 0 1 4 -1 / "
                + "3 0 1 1 7 -1 / 3 1 1 1 6 -1 / 3 2 1 1 5 -1 / 3 3 1 1 3 -1");
        Check.due("4 and another one", lastPartOf("7654......", "76543....."), "3 4 1 1 3 -1");
        Check.due("24", lastPartOf("121212121212343434343434", "121212121212343434343434",
                "........................"), "2 0 1 24 0 1");
    }

    private static void copiesAreLongerThanTheRun() {
        Check.sentence("Terms: If c is 4 or more, and above r: a COPY of c samples; else a RUN of r");
        String none = "..........";
        Check.due("c 4, r 3", lastPartOf("1112......", none, "1112......"), "2 0 2 4 0 2");
        Check.due("c 4, r 4", lastPartOf("1111......", none, "1111......"), "3 0 2 4 1 -1");
        Check.due("c 4, r 5", lastPartOf("1111......", none, "11111....."), "3 0 2 5 1 -1");
        Check.due("c 5, r 4", lastPartOf("11112.....", none, "11112....."), "2 0 2 5 0 2");
        Check.due("c 5, r 5", lastPartOf("11111.....", none, "11111....."), "3 0 2 5 1 -1");
        Check.due("c 6, r 5", lastPartOf("111112....", none, "111112...."), "2 0 2 6 0 2");
        Check.due("c 3, r 2", lastPartOf("112.......", none, "112......."), "3 2 2 1 2 -1");
        Check.due("c 3, r 5", lastPartOf("111.......", none, "11111....."), "3 0 2 5 1 -1");
    }

    private static void copiesAreFromFourAbove() {
        Check.sentence("Terms: For dy 1 .. 4");
        String none = "..........";
        String some = "1234......";
        Check.due("dy 1", lastPartOf(some, some), "2 0 1 4 0 1");
        Check.due("dy 2", lastPartOf(some, none, some), "2 0 2 4 0 2");
        Check.due("dy 3", lastPartOf(some, none, none, some), "2 0 3 4 0 3");
        Check.due("dy 4", lastPartOf(some, none, none, none, some), "2 0 4 4 0 4");
        Check.due("dy 5", lastPartOf(some, none, none, none, none, some), "3 3 5 1 4 -1");
        Check.due("none of the same row", lastPartOf("12341234..", none), "3 7 0 1 4 -1");
        Check.due("none of a row below", partsOf(some, none, none, none, none, some, none),
                "3 0 0 1 1 -1 / 3 1 0 1 2 -1 / 3 2 0 1 3 -1 / 3 3 0 1 4 -1 / "
                + "3 0 5 1 1 -1 / 3 1 5 1 2 -1 / 3 2 5 1 3 -1 / 3 3 5 1 4 -1");
    }

    private static void copiesAreFromFourAside() {
        Check.sentence("Terms: and dx -4 .. 4");
        for (int dx = -6; dx <= 6; dx++) {
            DrawingForms d = new DrawingForms(20, 3);
            for (int i = 0; i < 4; i++) {
                d.put(8 + i, 0, 1 + i);
                d.put(8 + i - dx, 1, 1 + i);
            }
            d.encode();
            boolean near = dx >= -4 && dx <= 4;
            Check.due("dx " + dx, Check.part(d, d.parts() - 1),
                    near ? "2 " + (8 - dx) + " 1 4 " + dx + " 1" : "3 " + (11 - dx) + " 1 1 4 -1");
        }
    }

    private static void copiesAreTheGreatest() {
        Check.sentence("Terms: The greatest c");
        Check.due("farther above",
                lastPartOf("12345.....", "1234......", "..........", "12345....."), "2 0 3 5 0 3");
        Check.due("nearer", lastPartOf("1234......", "12345.....", "12345....."), "2 0 2 5 0 1");
        Check.due("farther on the right", lastPartOf("123412345.", "12345....."), "2 0 1 5 4 1");
        Check.due("farther on the left", lastPartOf("123451234.", "....12345."), "2 4 1 5 -4 1");
    }

    private static void copiesAreTheFirstOfThese() {
        Check.sentence("Terms: The greatest c (of these the first dy and dx)");
        Check.due("dy 1 and dx 4 before dy 2 and dx -4",
                lastPartOf("1234........", "........1234", "....1234...."), "2 4 2 4 4 1");
        Check.due("dx -4 before dx 0", lastPartOf("12341234....", "....1234...."), "2 4 1 4 -4 1");
        Check.due("dx 0 before dx 4", lastPartOf("....12341234", "....1234...."), "2 4 1 4 0 1");
        Check.due("dx -1 before dx 1 and 3", lastPartOf("12121212..", ".1212....."), "2 1 1 4 -1 1");
        Check.due("dy 3 before dy 4",
                lastPartOf("1234......", "1234......", "..........", "..........", "1234......"),
                "2 0 4 4 0 3");
    }

    private static void copiesAreOfWhatIsInThePicture() {
        Check.sentence("Terms: dx to the right of it and dy above it (all in the picture)");
        Check.due("the left of a row is no end of the row before",
                lastPartOf("......12", "34......", "1234...."), "3 3 2 1 4 -1");
        Check.due("the right of a row is no beginning of the next",
                lastPartOf("........12", "34....1234"), "3 9 1 1 4 -1");
        Check.due("above the picture is nothing", partsOf("12341......", "..........."),
                "3 0 0 1 1 -1 / 3 1 0 1 2 -1 / 3 2 0 1 3 -1 / 3 3 0 1 4 -1 / 3 4 0 1 1 -1");
        Check.due("c ends where the row above ends",
                partsFrom(8, "......1234", "......5678", ".....56789"),
                "2 5 2 4 1 1 / 3 9 2 1 9 -1");
        Check.due("c begins where the row above begins",
                partsFrom(4, "2345......", "12345....."), "3 0 1 1 1 -1 / 2 1 1 4 -1 1");
    }

    private static void copiesReachTheSides() {
        Check.sentence("Terms: dx to the right of it and dy above it (all in the picture)");
        Check.due("the first column", lastPartOf("1234......", "....1234.."), "2 4 1 4 -4 1");
        Check.due("the last column", lastPartOf("......1234", "..1234...."), "2 2 1 4 4 1");
        Check.due("the first row", lastPartOf("......1234", "..........", "..........",
                "..........", "......1234"), "2 6 4 4 0 4");
        Check.due("the last row of a high picture",
                lastPartOf("....", "....", "....", "....", "1234", "1234"), "2 0 5 4 0 1");
    }

    private static void copiesEndWithWhatIsOpen() {
        Check.sentence("Terms: of the samples from it on to the right, as long as they are open");
        Check.due("the ground between", lastPartOf("12.34.....", "12.34....."), "3 4 1 1 4 -1");
        Check.due("the ground behind", partsFrom(8, "1234.5678.", "1234.5678."),
                "2 0 1 4 0 1 / 2 5 1 4 0 1");
        Check.due("a rectangle behind", partsFrom(5, "1235444...", "1235444...", ".........."),
                "2 0 1 4 0 1");
        Check.due("no copy of three before a rectangle",
                lastPartOf("123444....", "123444....", ".........."), "3 2 1 1 3 -1");
        Check.due("the row's end", partsFrom(8, "......1234", "5678..1234", "5678......"),
                "2 6 1 4 0 1 / 2 0 2 4 0 1");
    }

    private static void copiesAreOfAnySample() {
        Check.sentence("Terms: have the value of the sample dx to the right of it and dy above it");
        Check.due("of a rectangle", lastPartOf("1111112345", ".....12345", ".........."),
                "2 5 1 5 0 1");
        Check.due("of a copy", lastPartOf("1234......", "1234......", "1234......"), "2 0 2 4 0 1");
        Check.due("of two parts", lastPartOf("1122......", "1122......"), "2 0 1 4 0 1");
        Check.due("not the ground", partsOf("..12......", "3412......"),
                "3 2 0 1 1 -1 / 3 3 0 1 2 -1 / 3 0 1 1 3 -1 / 3 1 1 1 4 -1 / 3 2 1 1 1 -1 / "
                + "3 3 1 1 2 -1");
    }

    private static void runsAreOfOpenSamples() {
        Check.sentence("Terms: r is how many of the n have its own value, from it on");
        Check.due("the ground ends it", partsOf("11.11...."), "3 0 0 2 1 -1 / 3 3 0 2 1 -1");
        Check.due("another value ends it", partsOf("1121....."),
                "3 0 0 2 1 -1 / 3 2 0 1 2 -1 / 3 3 0 1 1 -1");
        Check.due("the row ends it", partsOf(".......11", "11......."),
                "3 7 0 2 1 -1 / 3 0 1 2 1 -1");
        Check.due("a rectangle of its value ends it",
                partsOf("..444...", "44444...", "........"), "1 2 0 3 2 4 / 3 0 1 2 4 -1");
        Check.due("it begins behind a rectangle of its value",
                partsOf("444.....", "44444...", "........"), "1 0 0 3 2 4 / 3 3 1 2 4 -1");
        Check.due("one sample", partsOf("........9"), "3 8 0 1 9 -1");
        Check.due("one sample below", partsOf(".", ".", ".", ".", ".", ".", "9"), "3 0 6 1 9 -1");
        Check.due("five samples", partsOf("....99999", "........."), "3 4 0 5 9 -1");
    }

    private static void bytesOfEachKind() {
        Check.sentence("Terms: BYTES: 1, ground; then parts");
        DrawingForms box = new DrawingForms(24, 24);
        box.box(0, 0, 24, 24, 254);
        box.box(21, 22, 3, 2, 255);
        Check.due("a rectangle at the end", bytesOf(box), "1 254 1 21 22 3 2 255 0");
        Check.due("a run at the end", bytesOf(Check.sketched(".......", ".....88")),
                "1 0 3 5 1 2 8 0");
        Check.due("dx -4 is 0", bytesOf(Check.sketched("1234......", "....1234..", "..........")),
                "1 0 3 0 0 1 1 3 1 0 1 2 3 2 0 1 3 3 3 0 1 4 2 4 1 4 0 1 0");
        Check.due("dx 4 is 8", bytesOf(Check.sketched("......1234", "..........", "..1234....")),
                "1 0 3 6 0 1 1 3 7 0 1 2 3 8 0 1 3 3 9 0 1 4 2 2 2 4 8 2 0");
        Check.due("a rectangle, a run, a copy in this order of bytes",
                bytesOf(Check.sketched("999999....", "1234......", "1234......", "..........")),
                "1 0 1 0 0 6 1 9 3 0 1 1 1 3 1 1 1 2 3 2 1 1 3 3 3 1 1 4 2 0 2 4 4 1 0");
    }

    private static void plainIfMoreThanTheSamples() {
        Check.sentence("Terms: But if that is more than 1 and the picture's samples: PLAIN");
        asToldIn("no part in 2 samples", "1 0 0", false, "..");
        asToldIn("no part in 1 sample", "0 0", true, ".");
        asToldIn("no part in 1 sample", "0 9", true, "9");
        asToldIn("one run in 7 samples", "1 0 3 6 0 1 9 0", false, "......9");
        asToldIn("one run in 6 samples", "0 0 0 0 0 0 9", true, "...", "..9");
        asToldIn("one run in 8 samples", "1 0 3 0 0 1 9 0", false, "9...", "....");
        asToldIn("two runs in 12 samples", "1 0 3 0 0 1 9 3 3 2 1 8 0", false,
                "9...", "....", "...8");
        asToldIn("two runs in 11 samples", "0 9 0 0 0 0 0 0 0 0 0 8", true, "9.........8");
        asToldIn("a rectangle and a run in 13 samples", "1 0 1 0 0 6 1 5 3 6 0 1 7 0", false,
                "5555557......");
        asToldIn("four runs and a copy in 28 samples",
                "1 0 3 0 0 1 1 3 1 0 1 2 3 2 0 1 3 3 3 0 1 4 2 0 1 4 4 1 0", false,
                "1234...", "1234...", ".......", ".......");
        asToldIn("four runs and a copy in 27 samples",
                "0 1 2 3 4 0 0 0 0 0 1 2 3 4 0 0 0 0 0 0 0 0 0 0 0 0 0 0", true,
                "1234.....", "1234.....", ".........");
    }

    private static void asToldIn(String what, String bytes, boolean plain, String... rows) {
        DrawingForms d = Check.sketched(rows);
        Check.due(what + ": encode()", d.encode(), bytes.split(" ").length);
        Check.due(what + ": bytes", Check.bytes(d), bytes);
        Check.due(what + ": isPlain()", d.isPlain(), plain);
    }

    private static void encodeLeavesAllElse() {
        Check.sentence("Promise 7: The picture is told: how many bytes that is");
        DrawingForms d = Check.sketched("99999.", "1.....");
        d.second(5, 1, 7);
        Check.feed(d, 1, 5);
        Check.due("encode()", d.encode(), 13);
        Check.due("told(2)", d.told(2), 13);
        Check.due("encode() again", d.encode(), 13);
        Check.due("the bytes again", Check.bytes(d), "1 0 3 0 0 5 9 3 0 1 1 1 0");
        Check.due("the picture", Check.picture(d), "9 9 9 9 9 0 / 1 0 0 0 0 0");
        Check.due("bytes to be read", d.told(3), 2);
        Check.due("the second", d.swap(), 7);
        Check.due("the second", Check.picture(d), "0 0 0 0 0 0 / 0 0 0 0 0 7");
        d.feed(0);
        Check.due("what was to be read", d.decode(), 0);
        Check.due("what was to be read", Check.picture(d), "5 5 5 5 5 5 / 5 5 5 5 5 5");
    }

    private static void byteAtNeedsAByte() {
        Check.sentence("Promise 8 and Terms: IndexOutOfBounds: there is no such");
        DrawingForms d = new DrawingForms(3, 3);
        for (int i : new int[] {0, -1, 1, LEAST, MOST}) {
            Check.due("byteAt(" + i + ") of none", Check.answer(() -> d.byteAt(i)), NONE_SUCH);
        }
        d.box(0, 0, 3, 3, 255);
        d.encode();
        Check.due("byteAt(0) of three", Check.answer(() -> d.byteAt(0)), "1");
        Check.due("byteAt(1) of three", Check.answer(() -> d.byteAt(1)), "255");
        Check.due("byteAt(2) of three", Check.answer(() -> d.byteAt(2)), "0");
        for (int i : new int[] {-1, 3, 4, LEAST, MOST}) {
            Check.due("byteAt(" + i + ") of three", Check.answer(() -> d.byteAt(i)), NONE_SUCH);
        }
        DrawingForms large = Check.filled(0);
        Check.due("byteAt(399) of 400", Check.answer(() -> large.byteAt(399)), "255");
        Check.due("byteAt(400) of 400", Check.answer(() -> large.byteAt(400)), NONE_SUCH);
    }

    private static void byteAtIsOfWhatWasToldLast() {
        Check.sentence("Promise 8: A byte of what was told last, by encode() or change()");
        DrawingForms d = Check.sketched("1..");
        d.change();
        Check.due("change()", Check.bytes(d), "0 0 1 0 255");
        d.encode();
        Check.due("then encode()", Check.bytes(d), "0 1 0 0");
        Check.due("none of the longer one before", Check.answer(() -> d.byteAt(4)), NONE_SUCH);
        d.put(0, 0, 0);
        Check.due("then put()", Check.bytes(d), "0 1 0 0");
        d.pass();
        Check.due("then pass()", Check.bytes(d), "0 1 0 0");
        d.decode();
        Check.due("then decode()", Check.bytes(d), "0 1 0 0");
        d.feed(7);
        d.apply();
        Check.due("then a refused apply()", Check.bytes(d), "0 1 0 0");
        d.swap();
        Check.due("then swap()", Check.bytes(d), "0 1 0 0");
        d.change();
        Check.due("then change()", Check.bytes(d), "0 0 1 1 255");
    }

    private static void bytesOfFewerPartsThanBefore() {
        Check.sentence("Promise 8: A byte of what was told last");
        DrawingForms d = Check.sketched("1.2....", "3......", ".......");
        Check.due("three parts", bytesOf(d), "1 0 3 0 0 1 1 3 2 0 1 2 3 0 1 1 3 0");
        d.put(0, 1, 0);
        Check.due("two parts", bytesOf(d), "1 0 3 0 0 1 1 3 2 0 1 2 0");
        d.put(0, 0, 0);
        Check.due("one part", bytesOf(d), "1 0 3 2 0 1 2 0");
        d.put(2, 0, 0);
        Check.due("no part", bytesOf(d), "1 0 0");
    }

    private static void partsAreOfTheLatestEncode() {
        Check.sentence("Promise 9: How many parts the latest encode() made, also if it is plain");
        DrawingForms d = Check.sketched("12", "3.");
        Check.due("before", d.parts(), 0);
        d.change();
        Check.due("after change() alone", d.parts(), 0);
        d.encode();
        Check.due("of a plain one", d.parts(), 3);
        Check.due("of a plain one", Check.parts(d), "3 0 0 1 1 -1 / 3 1 0 1 2 -1 / 3 0 1 1 3 -1");
        d.box(0, 0, 2, 2, 4);
        Check.due("of the latest", d.parts(), 3);
        d.change();
        Check.feed(d, 1, 0, 3, 0, 0, 1, 6, 0);
        d.decode();
        Check.due("after change() and decode()", d.parts(), 3);
        d.encode();
        Check.due("of one", d.parts(), 1);
        d.box(0, 0, 2, 2, 4);
        d.encode();
        Check.due("of none", d.parts(), 0);
    }

    private static void partNeedsAPart() {
        Check.sentence("Promise 10 and Terms: IndexOutOfBounds: there is no such");
        DrawingForms d = Check.sketched("1.2....", ".......");
        for (int k : new int[] {0, -1, 1, LEAST, MOST}) {
            Check.due("part(" + k + ", 0) before", Check.answer(() -> d.part(k, 0)), NONE_SUCH);
        }
        d.encode();
        Check.due("part(0, 1) of two", Check.answer(() -> d.part(0, 1)), "0");
        Check.due("part(1, 1) of two", Check.answer(() -> d.part(1, 1)), "2");
        for (int k : new int[] {-1, 2, 3, LEAST, MOST, 1 << 30}) {
            Check.due("part(" + k + ", 0) of two", Check.answer(() -> d.part(k, 0)), NONE_SUCH);
        }
        d.put(2, 0, 0);
        d.encode();
        Check.due("part(0, 1) of one", Check.answer(() -> d.part(0, 1)), "0");
        Check.due("part(1, 1) of one", Check.answer(() -> d.part(1, 1)), NONE_SUCH);
        d.put(0, 0, 0);
        d.encode();
        Check.due("part(0, 1) of none", Check.answer(() -> d.part(0, 1)), NONE_SUCH);
    }

    private static void partNeedsAThing() {
        Check.sentence("Promise 10 and Terms: IllegalArgument: another number is none that is told");
        DrawingForms d = Check.sketched("999999....", "1234......", "1234......", "..........");
        d.encode();
        for (int k = 0; k < 6; k++) {
            int part = k;
            for (int what : new int[] {-1, 6, 7, 256, LEAST, MOST}) {
                Check.due("part(" + k + ", " + what + ")",
                        Check.answer(() -> d.part(part, what)), NO_NUMBER);
            }
        }
    }

    private static void partsThingsOfEachKind() {
        Check.sentence("Promise 10: value, or dy (5; of a run NONE)");
        DrawingForms d = Check.sketched("999999....", "1234......", "....1234..", "..........");
        d.encode();
        Check.due("a rectangle", Check.part(d, 0), "1 0 0 6 1 9");
        Check.due("a run", Check.part(d, 4), "3 3 1 1 4 -1");
        Check.due("a copy, its dx below 0", Check.part(d, 5), "2 4 2 4 -4 1");
    }

    private static void isPlainIsOfTheLatestEncode() {
        Check.sentence("Promise 11: Whether the latest encode() was plain; false before");
        DrawingForms d = Check.sketched("12", "34");
        Check.due("before", d.isPlain(), false);
        d.change();
        Check.due("after change() alone", d.isPlain(), false);
        Check.feed(d, 0, 1, 2, 3, 4);
        d.decode();
        Check.due("after decode() of a plain one", d.isPlain(), false);
        d.encode();
        Check.due("plain", d.isPlain(), true);
        d.box(0, 0, 2, 2, 0);
        Check.due("of the latest", d.isPlain(), true);
        d.change();
        Check.feed(d, 1, 0, 0);
        d.decode();
        Check.due("after change() and decode()", d.isPlain(), true);
        d.encode();
        Check.due("not plain", d.isPlain(), false);
    }

    private static String partsOfBox(int w, int h) {
        DrawingForms d = new DrawingForms(10, 10);
        d.box(1, 2, w, h, 5);
        d.encode();
        return Check.parts(d);
    }

    private static String partsOf(String... rows) {
        return partsFrom(0, rows);
    }

    private static String partsFrom(int first, String... rows) {
        DrawingForms d = Check.sketched(rows);
        d.encode();
        return Check.partsFrom(d, first);
    }

    private static String lastPartOf(String... rows) {
        DrawingForms d = Check.sketched(rows);
        d.encode();
        return Check.part(d, d.parts() - 1);
    }

    private static String bytesOf(DrawingForms d) {
        d.encode();
        return Check.bytes(d);
    }
}
