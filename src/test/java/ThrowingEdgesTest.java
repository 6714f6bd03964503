import java.util.concurrent.Callable;
import java.util.function.Function;
import java.util.function.Supplier;

/** What the document says of all calls that throw: which exception comes first, and what stays. */
public final class ThrowingEdgesTest {
    private static final String INDEX = "throws IndexOutOfBoundsException";
    private static final String ARGUMENT = "throws IllegalArgumentException";
    private static final String TOO_MANY = "throws UnsupportedOperationException";
    private static final int LEAST = Integer.MIN_VALUE;
    private static final int MOST = Integer.MAX_VALUE;

    /** Any numbers at all: no call may answer them with anything but what the document names. */
    private static final int[] ANY = {LEAST, -256, -1, 0, 1, 2, 3, 4, 5, 6, 255, 256, MOST};

    public static void main(String[] args) {
        theFirstOfSeveral();
        theFirstOfFeed();
        throwingChangesNothingOfANewObject();
        throwingChangesNothingOfATold();
        throwingChangesNothingOfAnApplied();
        throwingChangesNothingWhenFull();
        onlyWhatIsNamedIsThrown();
        Check.end();
    }

    private static void theFirstOfSeveral() {
        Check.sentence("Terms: Of several that a call names, the first one");
        DrawingForms d = Check.sketched("12...", ".....");
        d.encode();
        int[][] outside = {{5, 0}, {0, 2}, {-1, 0}, {0, -1}, {LEAST, MOST}};
        for (int[] at : outside) {
            int x = at[0];
            int y = at[1];
            String where = " at " + x + ", " + y;
            for (int v : new int[] {-1, 256, LEAST, MOST}) {
                first("put" + where + " of " + v, () -> d.put(x, y, v), INDEX);
                first("second" + where + " of " + v, () -> d.second(x, y, v), INDEX);
                first("box" + where + " of " + v, () -> d.box(x, y, 1, 1, v), INDEX);
            }
            for (int side : new int[] {0, -1, LEAST}) {
                first("box" + where + " of width " + side, () -> d.box(x, y, side, 1, 1), INDEX);
                first("box" + where + " of height " + side, () -> d.box(x, y, 1, side, 1), INDEX);
                first("box" + where + ", all wrong", () -> d.box(x, y, side, side, 256), INDEX);
            }
        }
        first("put of 256 where a sample is", () -> d.put(4, 1, 256), ARGUMENT);
        first("second of 256 where a sample is", () -> d.second(4, 1, 256), ARGUMENT);
        first("box of 256 where a sample is", () -> d.box(4, 1, 1, 1, 256), ARGUMENT);
        first("box of width 0 where a sample is", () -> d.box(4, 1, 0, 1, 1), ARGUMENT);
        for (int what : new int[] {-1, 6, LEAST, MOST}) {
            first("part(2, " + what + ") of two", () -> d.part(2, what), INDEX);
            first("part(-1, " + what + ") of two", () -> d.part(-1, what), INDEX);
            first("part(1, " + what + ") of two", () -> d.part(1, what), ARGUMENT);
        }
    }

    private static void theFirstOfFeed() {
        Check.sentence("Terms: Of several that a call names, the first one");
        DrawingForms full = Check.filled(10);
        for (int b : new int[] {-1, 256, LEAST, MOST}) {
            first("feed(" + b + ") when there are 4000", () -> full.feed(b), ARGUMENT);
        }
        first("feed(0) when there are 4000", () -> full.feed(0), TOO_MANY);
        first("feed(255) when there are 4000", () -> full.feed(255), TOO_MANY);
    }

    private static void first(String what, Callable<?> call, String answer) {
        Check.due(what, Check.answer(call), answer);
    }

    private static void throwingChangesNothingOfANewObject() {
        Check.sentence("Terms: A call that throws changes nothing");
        nothingChanges(() -> new DrawingForms(3, 2), ThrowingEdgesTest::state);
    }

    private static void throwingChangesNothingOfATold() {
        Check.sentence("Terms: A call that throws changes nothing");
        Supplier<DrawingForms> made = () -> {
            DrawingForms d = Check.sketched("1....", "..234");
            d.second(1, 1, 9);
            d.encode();
            Check.feed(d, 1, 6, 3, 0, 0, 1, 8, 0);
            return d;
        };
        nothingChanges(made, ThrowingEdgesTest::state);
        Check.due("the state that is looked at", state(made.get()),
                "5 2 11 8 0 | 0 1 0 0 0 0 0 0 2 3 4 | true | 3 0 0 1 1 -1 / 3 2 1 1 2 -1 / "
                + "3 3 1 1 3 -1 / 3 4 1 1 4 -1 | 1 0 0 0 0 / 0 0 2 3 4 | 5 0 0 0 0 0 / 0 9 0 0 0 | 5 | "
                + "1 8 6 6 6 6 / 6 6 6 6 6");
    }

    private static void throwingChangesNothingOfAnApplied() {
        Check.sentence("Terms: A call that throws changes nothing");
        Supplier<DrawingForms> made = () -> {
            DrawingForms d = Check.sketched("1....", "..234");
            d.box(0, 0, 3, 2, 7);
            d.encode();
            d.swap();
            Check.feed(d, 2, 1, 2, 5, 5, 255);
            d.apply();
            d.change();
            d.pass();
            return d;
        };
        nothingChanges(made, ThrowingEdgesTest::state);
    }

    /** Each call that throws, on an object of its own, beside one on which it was not made. */
    private static void nothingChanges(Supplier<DrawingForms> made,
            Function<DrawingForms, String> state) {
        int parts = made.get().parts();
        int bytes = made.get().told(2);
        int w = made.get().told(0);
        int h = made.get().told(1);
        String before = state.apply(made.get());
        thrownBy("put outside", made, d -> d.put(w, 0, 1), INDEX, state, before);
        thrownBy("put outside", made, d -> d.put(0, -1, 1), INDEX, state, before);
        thrownBy("put of 256", made, d -> d.put(0, 0, 256), ARGUMENT, state, before);
        thrownBy("put of -1", made, d -> d.put(0, 0, -1), ARGUMENT, state, before);
        thrownBy("box outside", made, d -> d.box(0, h, 2, 2, 1), INDEX, state, before);
        thrownBy("box outside", made, d -> d.box(-1, 0, 2, 2, 1), INDEX, state, before);
        thrownBy("box of 256", made, d -> d.box(0, 0, 2, 2, 256), ARGUMENT, state, before);
        thrownBy("box of -1", made, d -> d.box(0, 0, 2, 2, -1), ARGUMENT, state, before);
        thrownBy("box of width 0", made, d -> d.box(0, 0, 0, 2, 1), ARGUMENT, state, before);
        thrownBy("box of height 0", made, d -> d.box(0, 0, 2, 0, 1), ARGUMENT, state, before);
        thrownBy("at outside", made, d -> d.at(w, h), INDEX, state, before);
        thrownBy("second outside", made, d -> d.second(w, 0, 1), INDEX, state, before);
        thrownBy("second of 256", made, d -> d.second(0, 0, 256), ARGUMENT, state, before);
        thrownBy("second of -1", made, d -> d.second(0, 0, -1), ARGUMENT, state, before);
        thrownBy("byteAt(-1)", made, d -> d.byteAt(-1), INDEX, state, before);
        thrownBy("byteAt() behind", made, d -> d.byteAt(bytes), INDEX, state, before);
        thrownBy("part(-1, 0)", made, d -> d.part(-1, 0), INDEX, state, before);
        thrownBy("part() behind", made, d -> d.part(parts, 0), INDEX, state, before);
        if (parts > 0) {
            thrownBy("part(0, 6)", made, d -> d.part(0, 6), ARGUMENT, state, before);
        }
        thrownBy("feed(-1)", made, d -> d.feed(-1), ARGUMENT, state, before);
        thrownBy("feed(256)", made, d -> d.feed(256), ARGUMENT, state, before);
    }

    private static void throwingChangesNothingWhenFull() {
        Check.sentence("Terms: A call that throws changes nothing");
        Supplier<DrawingForms> full = () -> Check.filled(10);
        String before = largeState(full.get());
        nothingChanges(full, ThrowingEdgesTest::largeState);
        thrownBy("feed(0)", full, d -> d.feed(0), TOO_MANY, ThrowingEdgesTest::largeState, before);
        thrownBy("pass()", full, d -> d.pass(), TOO_MANY, ThrowingEdgesTest::largeState, before);
        Supplier<DrawingForms> nearlyFull = () -> {
            DrawingForms d = Check.filled(9);
            d.feed(3);
            return d;
        };
        thrownBy("pass()", nearlyFull, d -> d.pass(), TOO_MANY, ThrowingEdgesTest::largeState,
                largeState(nearlyFull.get()));
    }

    private static void thrownBy(String what, Supplier<DrawingForms> made,
            Function<DrawingForms, Object> call, String answer,
            Function<DrawingForms, String> state, String before) {
        DrawingForms d = made.get();
        Check.due(what, Check.answer(() -> call.apply(d)), answer);
        Check.due(what + ": the state", state.apply(d), before);
    }

    /** All that an object answers; what is to be read shows by what it makes, so it is used up. */
    private static String state(DrawingForms d) {
        StringBuilder text = new StringBuilder();
        for (int what = 0; what <= 4; what++) {
            text.append(d.told(what)).append(' ');
        }
        text.append("| ").append(Check.bytes(d)).append(" | ").append(d.isPlain());
        text.append(" | ").append(Check.parts(d)).append(" | ").append(Check.picture(d));
        text.append(" | ").append(d.swap()).append(' ').append(Check.picture(d));
        text.append(" | ").append(d.swap()).append(" | ");
        text.append(d.decode()).append(' ').append(Check.picture(d));
        return text.toString();
    }

    /** The same of an object that is too large to look at everything in 512 calls. */
    private static String largeState(DrawingForms d) {
        StringBuilder text = new StringBuilder();
        for (int what = 0; what <= 4; what++) {
            text.append(d.told(what)).append(' ');
        }
        text.append(d.byteAt(0)).append(' ').append(d.byteAt(399)).append(' ');
        text.append(d.parts()).append(' ').append(d.isPlain()).append(' ');
        text.append(d.box(0, 0, 18, 19, 1)).append(' ').append(d.swap()).append(' ');
        text.append(d.box(0, 0, 18, 19, 0)).append(' ').append(d.apply());
        return text.toString();
    }

    private static void onlyWhatIsNamedIsThrown() {
        Check.sentence("LANGUAGE.md, rule 6: throws exactly what and where the document says");
        for (int a : ANY) {
            for (int b : ANY) {
                DrawingForms d = new DrawingForms(a, b);
                d.encode();
                named("at", () -> d.at(a, b), INDEX);
                named("byteAt", () -> d.byteAt(a), INDEX);
                named("part", () -> d.part(a, b), INDEX, ARGUMENT);
                named("told", () -> d.told(a));
                named("feed", () -> d.feed(a), ARGUMENT);
                named("feed", () -> d.feed(b), ARGUMENT);
                named("decode", () -> d.decode());
                for (int c : ANY) {
                    named("put", () -> d.put(a, b, c), INDEX, ARGUMENT);
                    named("second", () -> d.second(a, b, c), INDEX, ARGUMENT);
                    named("box", () -> d.box(0, 0, a, b, c), ARGUMENT);
                    named("box", () -> d.box(a, b, c, 2, 7), INDEX, ARGUMENT);
                    named("box", () -> d.box(a, b, 2, c, 7), INDEX, ARGUMENT);
                }
                named("change", () -> d.change());
                named("pass", () -> d.pass());
                named("apply", () -> d.apply());
                named("swap", () -> d.swap());
                named("encode", () -> d.encode());
            }
        }
    }

    private static void named(String what, Callable<?> call, String... exceptions) {
        String answer = Check.answer(call);
        boolean fine = !answer.startsWith("throws ");
        for (String exception : exceptions) {
            fine = fine || answer.equals(exception);
        }
        Check.due(what + " (" + answer + ") as named", fine, true);
    }
}
