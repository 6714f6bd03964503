import java.util.Arrays;

/**
 * Drawings told by what they are made of: a ground, rectangles, copies of what is above, runs of
 * one value; read back, with what can't be refused; and what makes one drawing of another.
 */
public final class DrawingForms {
    public static final int NONE = -1;

    private static final int MOST_SIDE = 24;
    private static final int MOST_VALUE = 255;
    private static final int MOST_TO_READ = 4000;

    private static final int FORM_PLAIN = 0;
    private static final int FORM_PARTS = 1;

    private static final int END = 0;
    private static final int RECTANGLE = 1;
    private static final int COPY = 2;
    private static final int RUN = 3;
    private static final int PART_FIELDS = 6;

    private static final int LEAST_RECTANGLE = 6;
    private static final int LEAST_COPY = 4;
    private static final int FARTHEST_COPY = 4;

    private static final int CHANGES_END = 255;
    private static final int CHANGE_HEAD = 3;

    private final Teller teller;
    private final ByteRow toldBytes;
    private final ByteRow toRead;
    private Picture picture;
    private Picture other;
    // Readers draw here, so that what is refused leaves the picture as it was.
    private Picture draft;

    public DrawingForms(int width, int height) {
        int w = nearestSide(width);
        int h = nearestSide(height);
        picture = new Picture(w, h);
        other = new Picture(w, h);
        draft = new Picture(w, h);
        teller = new Teller(w * h);
        // Changes are the longest thing told: runs of one in a row are 4 bytes for 2 samples, and
        // a run at the row's end needs no gap behind it.
        toldBytes = new ByteRow(h * (2 * w + 2) + 1);
        toRead = new ByteRow(MOST_TO_READ);
    }

    public boolean put(int x, int y, int v)
            throws IndexOutOfBoundsException, IllegalArgumentException {
        requireSample(x, y);
        requireByte(v);
        return picture.paint(x, y, v);
    }

    public int box(int x, int y, int width, int height, int v)
            throws IndexOutOfBoundsException, IllegalArgumentException {
        requireSample(x, y);
        requireByte(v);
        if (width < 1 || height < 1) {
            throw new IllegalArgumentException("a width or height below 1");
        }
        // Cut before anything is added to x or y: the sum could go beyond int.
        int w = Math.min(width, picture.width - x);
        int h = Math.min(height, picture.height - y);
        return picture.paintRectangle(x, y, w, h, v);
    }

    public int at(int x, int y) throws IndexOutOfBoundsException {
        requireSample(x, y);
        return picture.value(x, y);
    }

    public boolean second(int x, int y, int v)
            throws IndexOutOfBoundsException, IllegalArgumentException {
        requireSample(x, y);
        requireByte(v);
        return other.paint(x, y, v);
    }

    public int swap() {
        Picture first = picture;
        picture = other;
        other = first;
        return picture.differences(other);
    }

    public int encode() {
        teller.tell(picture, toldBytes);
        return toldBytes.count;
    }

    public int byteAt(int i) throws IndexOutOfBoundsException {
        if (i < 0 || i >= toldBytes.count) {
            throw new IndexOutOfBoundsException("no such byte");
        }
        return toldBytes.get(i);
    }

    public int parts() {
        return teller.found.count;
    }

    public int part(int k, int what) throws IndexOutOfBoundsException, IllegalArgumentException {
        if (k < 0 || k >= teller.found.count) {
            throw new IndexOutOfBoundsException("no such part");
        }
        if (what < 0 || what >= PART_FIELDS) {
            throw new IllegalArgumentException("no such thing of a part");
        }
        return teller.found.field(k, what);
    }

    public boolean isPlain() {
        return teller.plain;
    }

    public int feed(int b) throws IllegalArgumentException, UnsupportedOperationException {
        requireByte(b);
        if (toRead.count >= MOST_TO_READ) {
            throw new UnsupportedOperationException("too many bytes to be read");
        }
        toRead.add(b);
        return toRead.count;
    }

    public int pass() throws UnsupportedOperationException {
        if (toRead.count + toldBytes.count > MOST_TO_READ) {
            throw new UnsupportedOperationException("too many bytes to be read");
        }
        toRead.addAll(toldBytes);
        return toRead.count;
    }

    public int decode() {
        return takeDraft(DrawingReader.readDrawing(toRead, draft));
    }

    public int change() {
        Changes.write(picture, other, toldBytes);
        return toldBytes.count;
    }

    public int apply() {
        draft.takeFrom(picture);
        return takeDraft(Changes.read(toRead, draft));
    }

    public int told(int what) {
        switch (what) {
            case 0:
                return picture.width;
            case 1:
                return picture.height;
            case 2:
                return toldBytes.count;
            case 3:
                return toRead.count;
            case 4:
                return teller.groundOf(picture);
            default:
                return NONE;
        }
    }

    public void clear() {
        picture.paintAll(0);
        other.paintAll(0);
        teller.forget();
        toldBytes.drop();
        toRead.drop();
    }

    private static int nearestSide(int side) {
        return Math.max(1, Math.min(MOST_SIDE, side));
    }

    /** What a reader answers when the first wrong thing begins at this place. */
    private static int refusedAt(int place) {
        return -1 - place;
    }

    /** How many bytes a part of this kind has; 0 if there is no such kind. */
    private static int bytesOf(int kind) {
        switch (kind) {
            case RECTANGLE:
            case COPY:
                return 6;
            case RUN:
                return 5;
            default:
                return 0;
        }
    }

    private void requireSample(int x, int y) {
        if (!picture.has(x, y)) {
            throw new IndexOutOfBoundsException("no such sample");
        }
    }

    private static void requireByte(int b) {
        if (b < 0 || b > MOST_VALUE) {
            throw new IllegalArgumentException("not 0 to 255");
        }
    }

    /** Ends a reading: the bytes go, and the draft becomes the picture unless it was refused. */
    private int takeDraft(int answer) {
        toRead.drop();
        if (answer >= 0) {
            Picture old = picture;
            picture = draft;
            draft = old;
        }
        return answer;
    }

    /** Samples row by row; outside of it there is no value and nothing is painted. */
    private static final class Picture {
        private final int width;
        private final int height;
        private final int[] values;

        /** Both sides are 1 to MOST_SIDE. */
        Picture(int width, int height) {
            this.width = width;
            this.height = height;
            this.values = new int[width * height];
        }

        boolean has(int x, int y) {
            return x >= 0 && x < width && y >= 0 && y < height;
        }

        /** Whether the rectangle has samples, and all of them are in the picture. */
        boolean holds(int x, int y, int w, int h) {
            return has(x, y) && w >= 1 && w <= width - x && h >= 1 && h <= height - y;
        }

        int value(int x, int y) {
            return has(x, y) ? values[y * width + x] : NONE;
        }

        boolean paint(int x, int y, int v) {
            if (!has(x, y)) {
                return false;
            }
            int i = y * width + x;
            boolean changed = values[i] != v;
            values[i] = v;
            return changed;
        }

        int paintRectangle(int x, int y, int w, int h, int v) {
            int changed = 0;
            for (int row = y; row < y + h; row++) {
                for (int column = x; column < x + w; column++) {
                    if (paint(column, row, v)) {
                        changed++;
                    }
                }
            }
            return changed;
        }

        void paintAll(int v) {
            Arrays.fill(values, v);
        }

        void paintCopy(int x, int y, int length, int dx, int dy) {
            for (int column = x; column < x + length; column++) {
                paint(column, y, value(column + dx, y - dy));
            }
        }

        void takeFrom(Picture source) {
            for (int i = 0; i < values.length && i < source.values.length; i++) {
                values[i] = source.values[i];
            }
        }

        int differences(Picture that) {
            int differing = 0;
            for (int i = 0; i < values.length && i < that.values.length; i++) {
                if (values[i] != that.values[i]) {
                    differing++;
                }
            }
            return differing;
        }
    }

    /** Bytes one behind another, up to a room that is fixed once. */
    private static final class ByteRow {
        private final int[] bytes;
        private int count;

        /** The room is above 0. */
        ByteRow(int room) {
            bytes = new int[room];
        }

        int get(int i) {
            return i >= 0 && i < count && i < bytes.length ? bytes[i] : NONE;
        }

        void add(int b) {
            if (count >= 0 && count < bytes.length) {
                bytes[count] = b;
                count++;
            }
        }

        void addAll(ByteRow source) {
            for (int i = 0; i < source.count; i++) {
                add(source.get(i));
            }
        }

        void drop() {
            count = 0;
        }
    }

    /** The parts that a telling found, each by its PART_FIELDS numbers. */
    private static final class PartList {
        private final int[] fields;
        private int count;
        private int byteLength;

        /** The room is above 0, in parts. */
        PartList(int room) {
            fields = new int[room * PART_FIELDS];
        }

        void add(int kind, int x, int y, int size, int fourth, int fifth) {
            int from = count * PART_FIELDS;
            if (from < 0 || from + PART_FIELDS > fields.length) {
                return;
            }
            fields[from] = kind;
            fields[from + 1] = x;
            fields[from + 2] = y;
            fields[from + 3] = size;
            fields[from + 4] = fourth;
            fields[from + 5] = fifth;
            count++;
            byteLength += bytesOf(kind);
        }

        int field(int k, int what) {
            int i = k * PART_FIELDS + what;
            return i >= 0 && i < fields.length ? fields[i] : NONE;
        }

        void writeTo(ByteRow bytes) {
            for (int k = 0; k < count; k++) {
                int kind = field(k, 0);
                for (int what = 0; what < bytesOf(kind); what++) {
                    // A byte can't be below 0, and dx can.
                    int shift = kind == COPY && what == 4 ? FARTHEST_COPY : 0;
                    bytes.add(field(k, what) + shift);
                }
            }
        }

        void drop() {
            count = 0;
            byteLength = 0;
        }
    }

    /** Tells a picture by its parts, or plain where that is shorter; keeps what it found. */
    private static final class Teller {
        private final boolean[] open;
        private final int[] counts;
        private final PartList found;
        private boolean plain;

        /** The samples of a picture are 1 or more; each part has at least one of them. */
        Teller(int samples) {
            open = new boolean[samples];
            counts = new int[MOST_VALUE + 1];
            found = new PartList(samples);
        }

        void forget() {
            found.drop();
            plain = false;
        }

        void tell(Picture picture, ByteRow bytes) {
            int ground = groundOf(picture);
            openAllBut(ground, picture);
            found.drop();
            findRectangles(picture);
            findCopiesAndRuns(picture);
            plain = 3 + found.byteLength > 1 + picture.values.length;
            bytes.drop();
            if (plain) {
                writePlain(picture, bytes);
            } else {
                bytes.add(FORM_PARTS);
                bytes.add(ground);
                found.writeTo(bytes);
                bytes.add(END);
            }
        }

        int groundOf(Picture picture) {
            Arrays.fill(counts, 0);
            for (int i = 0; i < picture.values.length; i++) {
                int v = picture.values[i];
                if (v >= 0 && v < counts.length) {
                    counts[v]++;
                }
            }
            int ground = 0;
            int most = 0;
            for (int v = 0; v < counts.length; v++) {
                if (counts[v] > most) {
                    most = counts[v];
                    ground = v;
                }
            }
            return ground;
        }

        private static void writePlain(Picture picture, ByteRow bytes) {
            bytes.add(FORM_PLAIN);
            for (int i = 0; i < picture.values.length; i++) {
                bytes.add(picture.values[i]);
            }
        }

        private void openAllBut(int ground, Picture picture) {
            for (int i = 0; i < open.length && i < picture.values.length; i++) {
                open[i] = picture.values[i] != ground;
            }
        }

        private boolean isOpen(Picture picture, int x, int y) {
            int i = y * picture.width + x;
            return picture.has(x, y) && i >= 0 && i < open.length && open[i];
        }

        private void close(Picture picture, int x, int y, int w, int h) {
            for (int row = y; row < y + h; row++) {
                for (int column = x; column < x + w; column++) {
                    int i = row * picture.width + column;
                    if (picture.has(column, row) && i >= 0 && i < open.length) {
                        open[i] = false;
                    }
                }
            }
        }

        private void findRectangles(Picture picture) {
            for (int y = 0; y < picture.height; y++) {
                for (int x = 0; x < picture.width; x++) {
                    if (isOpen(picture, x, y)) {
                        takeRectangle(picture, x, y);
                    }
                }
            }
        }

        private void takeRectangle(Picture picture, int x, int y) {
            int v = picture.value(x, y);
            int bestWidth = 0;
            int bestHeight = 0;
            int w = picture.width - x;
            for (int h = 1; h <= picture.height - y && w > 0; h++) {
                w = Math.min(w, openOfValue(picture, x, y + h - 1, v));
                // Width only falls as height grows: of those with as many samples, the first
                // one is the widest.
                if (w * h > bestWidth * bestHeight) {
                    bestWidth = w;
                    bestHeight = h;
                }
            }
            if (bestWidth * bestHeight >= LEAST_RECTANGLE) {
                found.add(RECTANGLE, x, y, bestWidth, bestHeight, v);
                close(picture, x, y, bestWidth, bestHeight);
            }
        }

        /** How many samples, from this one to the right, are open and have the value. */
        private int openOfValue(Picture picture, int x, int y, int v) {
            int n = 0;
            while (n < picture.width && isOpen(picture, x + n, y)
                    && picture.value(x + n, y) == v) {
                n++;
            }
            return n;
        }

        private void findCopiesAndRuns(Picture picture) {
            for (int y = 0; y < picture.height; y++) {
                for (int x = 0; x < picture.width; x++) {
                    if (isOpen(picture, x, y)) {
                        takeCopyOrRun(picture, x, y);
                    }
                }
            }
        }

        private void takeCopyOrRun(Picture picture, int x, int y) {
            int bestLength = 0;
            int bestDx = 0;
            int bestDy = 0;
            for (int dy = 1; dy <= FARTHEST_COPY; dy++) {
                for (int dx = -FARTHEST_COPY; dx <= FARTHEST_COPY; dx++) {
                    int length = openAsCopied(picture, x, y, dx, dy);
                    if (length > bestLength) {
                        bestLength = length;
                        bestDx = dx;
                        bestDy = dy;
                    }
                }
            }
            int v = picture.value(x, y);
            int run = openOfValue(picture, x, y, v);
            if (bestLength >= LEAST_COPY && bestLength > run) {
                found.add(COPY, x, y, bestLength, bestDx, bestDy);
                close(picture, x, y, bestLength, 1);
            } else {
                found.add(RUN, x, y, run, v, NONE);
                close(picture, x, y, run, 1);
            }
        }

        /** How many samples, from this one to the right, are open and as those dx, dy off. */
        private int openAsCopied(Picture picture, int x, int y, int dx, int dy) {
            int n = 0;
            // An open sample has a value, and outside of the picture there is none: the two
            // are never alike.
            while (n < picture.width && isOpen(picture, x + n, y)
                    && picture.value(x + n, y) == picture.value(x + n + dx, y - dy)) {
                n++;
            }
            return n;
        }
    }

    /** Reads what a telling could be, plain or by parts. */
    private static final class DrawingReader {
        static int readDrawing(ByteRow in, Picture draft) {
            int form = in.get(0);
            if (form == FORM_PLAIN) {
                return readPlain(in, draft);
            }
            if (form != FORM_PARTS) {
                return refusedAt(0);
            }
            int ground = in.get(1);
            if (ground == NONE) {
                return refusedAt(1);
            }
            draft.paintAll(ground);
            return readParts(in, draft);
        }

        private static int readPlain(ByteRow in, Picture draft) {
            int due = 1 + draft.values.length;
            if (in.count != due) {
                return refusedAt(Math.min(in.count, due));
            }
            for (int i = 0; i < draft.values.length; i++) {
                draft.values[i] = in.get(i + 1);
            }
            return 0;
        }

        private static int readParts(ByteRow in, Picture draft) {
            int place = 2;
            for (int drawn = 0; drawn < MOST_TO_READ; drawn++) {
                int kind = in.get(place);
                if (kind == END) {
                    return place + 1 == in.count ? drawn : refusedAt(place + 1);
                }
                int length = bytesOf(kind);
                if (length == 0 || length > in.count - place || !drawPart(in, place, draft)) {
                    return refusedAt(place);
                }
                place += length;
            }
            return refusedAt(place);
        }

        /** Whether the part, whose bytes are all there, could be drawn. */
        private static boolean drawPart(ByteRow in, int place, Picture draft) {
            int kind = in.get(place);
            int x = in.get(place + 1);
            int y = in.get(place + 2);
            int size = in.get(place + 3);
            int fourth = in.get(place + 4);
            if (kind == RECTANGLE) {
                return drawRectangle(draft, x, y, size, fourth, in.get(place + 5));
            }
            if (kind == COPY) {
                return drawCopy(draft, x, y, size, fourth - FARTHEST_COPY, in.get(place + 5));
            }
            return drawRectangle(draft, x, y, size, 1, fourth);
        }

        private static boolean drawRectangle(Picture draft, int x, int y, int w, int h, int v) {
            if (!draft.holds(x, y, w, h)) {
                return false;
            }
            draft.paintRectangle(x, y, w, h, v);
            return true;
        }

        private static boolean drawCopy(Picture draft, int x, int y, int length, int dx, int dy) {
            if (dx > FARTHEST_COPY || dy < 1 || dy > FARTHEST_COPY) {
                return false;
            }
            if (!draft.holds(x, y, length, 1) || !draft.holds(x + dx, y - dy, length, 1)) {
                return false;
            }
            draft.paintCopy(x, y, length, dx, dy);
            return true;
        }
    }

    /** Writes what makes one picture of another, and reads it. */
    private static final class Changes {
        static void write(Picture from, Picture to, ByteRow bytes) {
            bytes.drop();
            for (int y = 0; y < from.height; y++) {
                for (int x = 0; x < from.width; x++) {
                    int n = differing(from, to, x, y);
                    if (n > 0) {
                        writeRun(to, x, y, n, bytes);
                        // The sample behind a run does not differ: it may be left out too.
                        x += n;
                    }
                }
            }
            bytes.add(CHANGES_END);
        }

        /** How many samples, from this one to the right, differ. */
        private static int differing(Picture from, Picture to, int x, int y) {
            int n = 0;
            while (x + n < from.width && from.value(x + n, y) != to.value(x + n, y)) {
                n++;
            }
            return n;
        }

        private static void writeRun(Picture to, int x, int y, int n, ByteRow bytes) {
            bytes.add(x);
            bytes.add(y);
            bytes.add(n);
            for (int i = 0; i < n; i++) {
                bytes.add(to.value(x + i, y));
            }
        }

        static int read(ByteRow in, Picture draft) {
            int place = 0;
            int samples = 0;
            for (int runs = 0; runs < MOST_TO_READ; runs++) {
                if (in.get(place) == CHANGES_END) {
                    return place + 1 == in.count ? samples : refusedAt(place + 1);
                }
                int n = readRun(in, place, draft);
                if (n == 0) {
                    return refusedAt(place);
                }
                samples += n;
                place += CHANGE_HEAD + n;
            }
            return refusedAt(place);
        }

        /** How many samples the run that begins here has; 0 if it is refused. */
        private static int readRun(ByteRow in, int place, Picture draft) {
            int x = in.get(place);
            int y = in.get(place + 1);
            int n = in.get(place + 2);
            if (!draft.holds(x, y, n, 1) || n > in.count - place - CHANGE_HEAD) {
                return 0;
            }
            for (int i = 0; i < n; i++) {
                draft.paint(x + i, y, in.get(place + CHANGE_HEAD + i));
            }
            return n;
        }
    }
}
