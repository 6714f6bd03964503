import java.util.concurrent.Callable;

/** What the tests share: each wrong answer is printed, and the test ends with 1 if there was one. */
final class Check {
    private static int looked = 0;
    private static int wrong = 0;
    private static String sentence = "";

    private Check() {
    }

    /** The answers from here on are due because of this sentence of the document. */
    static void sentence(String words) {
        sentence = "\"" + words + "\": ";
    }

    static void due(String what, long got, long want) {
        due(what, Long.toString(got), Long.toString(want));
    }

    static void due(String what, boolean got, boolean want) {
        due(what, got ? 1 : 0, want ? 1 : 0);
    }

    static void due(String what, String got, String want) {
        looked++;
        if (!got.equals(want)) {
            wrong++;
            System.out.println(sentence + what + " answered " + got + ", due is " + want);
        }
    }

    /** The exception must be of this very class: a subclass would be the machine's own. */
    static void thrown(String what, Class<? extends RuntimeException> want, Runnable call) {
        String got = "nothing";
        try {
            call.run();
        } catch (RuntimeException e) {
            got = e.getClass().getSimpleName();
        }
        due(what + " throws", got, want.getSimpleName());
    }

    static void end() {
        if (looked == 0) {
            System.out.println("nothing was looked at");
            System.exit(1);
        }
        if (wrong != 0) {
            System.out.println(wrong + " of " + looked + " answers are not as due");
            System.exit(1);
        }
        System.out.println(looked + " answers, all as due");
    }

    /** What a call answers, as a text; of one that throws, the exception's own class. */
    static String answer(Callable<?> call) {
        try {
            return String.valueOf(call.call());
        } catch (Exception e) {
            return "throws " + e.getClass().getSimpleName();
        }
    }

    /** The bytes told last, as a text. */
    static String bytes(DrawingForms d) {
        StringBuilder text = new StringBuilder();
        int count = d.told(2);
        for (int i = 0; i < count; i++) {
            text.append(i == 0 ? "" : " ").append(d.byteAt(i));
        }
        return text.toString();
    }

    /** A part's six numbers, as a text. */
    static String part(DrawingForms d, int k) {
        StringBuilder text = new StringBuilder();
        for (int what = 0; what <= 5; what++) {
            text.append(what == 0 ? "" : " ").append(d.part(k, what));
        }
        return text.toString();
    }

    /** All parts of the latest encode(), a part behind a slash. */
    static String parts(DrawingForms d) {
        return partsFrom(d, 0);
    }

    static String partsFrom(DrawingForms d, int first) {
        StringBuilder text = new StringBuilder();
        int count = d.parts();
        for (int k = first; k < count; k++) {
            text.append(k == first ? "" : " / ").append(part(d, k));
        }
        return text.toString();
    }

    /** The picture's values, a row behind a slash. */
    static String picture(DrawingForms d) {
        StringBuilder text = new StringBuilder();
        int width = d.told(0);
        int height = d.told(1);
        for (int y = 0; y < height; y++) {
            text.append(y == 0 ? "" : " / ");
            for (int x = 0; x < width; x++) {
                text.append(x == 0 ? "" : " ").append(d.at(x, y));
            }
        }
        return text.toString();
    }

    /** A new object whose picture has these rows: a digit is a value, a dot is 0. */
    static DrawingForms sketched(String... rows) {
        DrawingForms d = new DrawingForms(rows[0].length(), rows.length);
        for (int y = 0; y < rows.length; y++) {
            for (int x = 0; x < rows[y].length(); x++) {
                if (rows[y].charAt(x) != '.') {
                    d.put(x, y, rows[y].charAt(x) - '0');
                }
            }
        }
        return d;
    }

    /** A new object whose picture has these rows. */
    static DrawingForms drawn(int[]... rows) {
        DrawingForms d = new DrawingForms(rows[0].length, rows.length);
        for (int y = 0; y < rows.length; y++) {
            for (int x = 0; x < rows[y].length; x++) {
                d.put(x, y, rows[y][x]);
            }
        }
        return d;
    }

    static int[] row(int... values) {
        return values;
    }

    static void feed(DrawingForms d, int... bytes) {
        for (int b : bytes) {
            d.feed(b);
        }
    }

    /**
     * A new object of 18 by 19 with so many times 400 bytes to be read: as many as are told by
     * change() when every sample differs. Ten times are the 4000 that there may be.
     */
    static DrawingForms filled(int times) {
        DrawingForms d = new DrawingForms(18, 19);
        d.box(0, 0, 18, 19, 1);
        due("change() of all samples", d.change(), 400);
        for (int i = 1; i <= times; i++) {
            due("pass() for the time " + i, d.pass(), 400 * i);
        }
        return d;
    }
}
