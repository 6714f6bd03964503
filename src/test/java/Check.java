/** What the tests share: each wrong answer is printed, and the test ends with 1 if there was one. */
final class Check {
    private static int looked = 0;
    private static int wrong = 0;

    private Check() {
    }

    static void due(String what, long got, long want) {
        looked++;
        if (got != want) {
            wrong++;
            System.out.println(what + " answered " + got + ", due is " + want);
        }
    }

    static void due(String what, boolean got, boolean want) {
        due(what, got ? 1 : 0, want ? 1 : 0);
    }

    static void due(String what, String got, String want) {
        looked++;
        if (!got.equals(want)) {
            wrong++;
            System.out.println(what + " answered " + got + ", due is " + want);
        }
    }

    /** The exception must be of this very class: a subclass would be the machine's own. */
    static void thrown(String what, Class<? extends RuntimeException> want, Runnable call) {
        String got = "nothing";
        try {
            call.run();
        } catch (RuntimeException e) {
            got = e.getClass().getSimpleName();
        }
        due(what + " throws", got, want.getSimpleName());
    }

    static void end() {
        if (looked == 0) {
            System.out.println("nothing was looked at");
            System.exit(1);
        }
        if (wrong != 0) {
            System.out.println(wrong + " of " + looked + " answers are not as due");
            System.exit(1);
        }
        System.out.println(looked + " answers, all as due");
    }

    /** The bytes told last, as a text. */
    static String bytes(DrawingForms d) {
        StringBuilder text = new StringBuilder();
        for (int i = 0; i < d.told(2); i++) {
            text.append(i == 0 ? "" : " ").append(d.byteAt(i));
        }
        return text.toString();
    }

    /** A part's six numbers, as a text. */
    static String part(DrawingForms d, int k) {
        StringBuilder text = new StringBuilder();
        for (int what = 0; what <= 5; what++) {
            text.append(what == 0 ? "" : " ").append(d.part(k, what));
        }
        return text.toString();
    }

    /** The picture's values, a row behind a slash. */
    static String picture(DrawingForms d) {
        StringBuilder text = new StringBuilder();
        for (int y = 0; y < d.told(1); y++) {
            text.append(y == 0 ? "" : " / ");
            for (int x = 0; x < d.told(0); x++) {
                text.append(x == 0 ? "" : " ").append(d.at(x, y));
            }
        }
        return text.toString();
    }

    /** A new object whose picture has these rows. */
    static DrawingForms drawn(int[]... rows) {
        DrawingForms d = new DrawingForms(rows[0].length, rows.length);
        for (int y = 0; y < rows.length; y++) {
            for (int x = 0; x < rows[y].length; x++) {
                d.put(x, y, rows[y][x]);
            }
        }
        return d;
    }

    static int[] row(int... values) {
        return values;
    }

    static void feed(DrawingForms d, int... bytes) {
        for (int b : bytes) {
            d.feed(b);
        }
    }
}
