import java.util.Arrays;

/**
 * Pictures in files of chunks, as in ISO 15948: made, lessened, written, fed back, read and told.
 *
 * <p>The face below only asks whether a call may be; the classes behind it do the work and hold the
 * state. All rows are made once, with the object, and used again by every call.
 */
public final class PortableFiles {
    public static final int NONE = -1;

    private static final int FED_MOST = 2000;

    private final Picture picture;
    private final Writing writing;
    private final Reading reading;

    public PortableFiles() {
        picture = new Picture();
        writing = new Writing();
        reading = new Reading();
    }

    public void head(int width, int height, int bits, int kind) throws IllegalArgumentException {
        if (!Shape.mayBe(width, height, bits, kind)) {
            throw new IllegalArgumentException("no picture may have these sizes, bits or kind");
        }
        picture.begin(width, height, bits, kind);
    }

    public int colour(int red, int green, int blue, int alpha)
            throws IllegalStateException, IllegalArgumentException, UnsupportedOperationException {
        if (!picture.there || picture.kind != Shape.PALETTED) {
            throw new IllegalStateException("there is no picture with a palette");
        }
        if (!isByte(red) || !isByte(green) || !isByte(blue) || !isByte(alpha)) {
            throw new IllegalArgumentException("a part of a colour is 0 .. 255");
        }
        if (picture.palette.count >= Palette.most(picture.bits)) {
            throw new UnsupportedOperationException("the palette is full");
        }
        picture.palette.add(red, green, blue, alpha);
        picture.hasChanged();
        return picture.palette.count;
    }

    public int put(int x, int y, int channel, int v)
            throws IllegalStateException, IndexOutOfBoundsException, IllegalArgumentException {
        needPicture();
        if (!picture.has(x, y, channel)) {
            throw new IndexOutOfBoundsException("the picture has no such sample");
        }
        if (!picture.sampleMayBe(v)) {
            throw new IllegalArgumentException("a sample has no such number");
        }
        int was = picture.sample(x, y, channel);
        if (v != was) {
            picture.setSample(x, y, channel, v);
            picture.hasChanged();
        }
        return was;
    }

    public int tag(int what, int v) throws IllegalStateException, IllegalArgumentException {
        needPicture();
        if (!Tags.isTag(what)) {
            throw new IllegalArgumentException("there is no such tag");
        }
        if (v != NONE && !Tags.mayBe(what, v)) {
            throw new IllegalArgumentException("this tag has no such number");
        }
        int was = picture.tags.value(what);
        picture.tags.set(what, v);
        return was;
    }

    public int extra(int letters)
            throws IllegalStateException, IllegalArgumentException, UnsupportedOperationException {
        needPicture();
        if (!Letters.areOfExtra(letters)) {
            throw new IllegalArgumentException("an extra may not have these letters");
        }
        if (picture.extras.isFull()) {
            throw new UnsupportedOperationException("there are as many extras as may be");
        }
        picture.extras.add(letters);
        return picture.extras.count;
    }

    public int byteOf(int extra, int b)
            throws IllegalStateException, IndexOutOfBoundsException, IllegalArgumentException,
                    UnsupportedOperationException {
        needPicture();
        if (!picture.extras.has(extra)) {
            throw new IndexOutOfBoundsException("the picture has no such extra");
        }
        needByte(b);
        if (picture.extras.lengthOf(extra) >= Extras.BYTES_MOST) {
            throw new UnsupportedOperationException("the extra has as many bytes as may be");
        }
        picture.extras.addByte(extra, b);
        return picture.extras.lengthOf(extra);
    }

    public int reduce() throws IllegalStateException {
        needPicture();
        Lessening.lessen(picture);
        return 10 * picture.kind + picture.bits;
    }

    public int write() throws IllegalStateException {
        needPicture();
        if (picture.kind == Shape.PALETTED && picture.palette.count == 0) {
            throw new IllegalStateException("the palette has no entry");
        }
        writing.run(picture);
        return writing.out.count;
    }

    public int byteAt(int i) throws IndexOutOfBoundsException {
        needWritten(i);
        return writing.out.value(i);
    }

    public int feed(int b) throws IllegalArgumentException, UnsupportedOperationException {
        needByte(b);
        needRoom(1);
        reading.fed.add(b);
        return reading.fed.count;
    }

    public int pass(int from, int n)
            throws IndexOutOfBoundsException, IllegalArgumentException, UnsupportedOperationException {
        needWritten(from);
        if (n < 0) {
            throw new IllegalArgumentException("fewer bytes than none");
        }
        int many = Math.min(n, writing.out.count - from);
        needRoom(many);
        for (int i = 0; i < many; i++) {
            reading.fed.add(writing.out.value(from + i));
        }
        return many;
    }

    public int alter(int i, int b, boolean mends)
            throws IndexOutOfBoundsException, IllegalArgumentException {
        if (!reading.fed.has(i)) {
            throw new IndexOutOfBoundsException("no such byte was fed");
        }
        needByte(b);
        int was = reading.fed.value(i);
        reading.fed.set(i, b);
        if (mends) {
            reading.fed.mendSum(i);
        }
        return was;
    }

    public int read() {
        reading.run();
        return reading.isWhole ? reading.chunks : -1 - reading.place;
    }

    public int at(int x, int y, int channel)
            throws IllegalStateException, IndexOutOfBoundsException {
        needReading();
        if (!reading.picture.has(x, y, channel)) {
            throw new IndexOutOfBoundsException("what was read has no such sample");
        }
        return reading.picture.sample(x, y, channel);
    }

    public int found(int what) throws IllegalStateException {
        needReading();
        switch (what) {
            case 0: return reading.picture.width;
            case 1: return reading.picture.height;
            case 2: return reading.picture.bits;
            case 3: return reading.picture.kind;
            case 4: return reading.picture.palette.count;
            case 5: return reading.picture.tags.value(Tags.GAMMA);
            case 6: return reading.picture.tags.value(Tags.INTENT);
            case 7: return reading.picture.tags.value(Tags.SAMPLES_A_METRE);
            case 8: return reading.picture.extras.count;
            case 9: return reading.leftOut;
            default: return NONE;
        }
    }

    public int entry(int k, int what)
            throws IllegalStateException, IndexOutOfBoundsException, IllegalArgumentException {
        needReading();
        if (!reading.picture.palette.has(k)) {
            throw new IndexOutOfBoundsException("what was read has no such entry");
        }
        if (what < 0 || what >= Palette.PARTS) {
            throw new IllegalArgumentException("an entry has no such part");
        }
        return reading.picture.palette.part(k, what);
    }

    public int unknown(int k, int i) throws IllegalStateException, IndexOutOfBoundsException {
        needReading();
        Extras extras = reading.picture.extras;
        if (!extras.has(k)) {
            throw new IndexOutOfBoundsException("what was read has no such extra");
        }
        if (i < -1 || i >= extras.lengthOf(k)) {
            throw new IndexOutOfBoundsException("the extra has no such byte");
        }
        return i == -1 ? extras.lettersOf(k) : extras.value(k, i);
    }

    public void take() throws IllegalStateException {
        needReading();
        picture.copyFrom(reading.picture);
    }

    public int told(int what) {
        switch (what) {
            case 0: return reading.fault;
            case 1: return picture.there ? picture.kind : NONE;
            case 2: return picture.there ? picture.bits : NONE;
            case 3: return picture.extras.count;
            case 4: return writing.out.count;
            case 5: return reading.fed.count;
            case 6: return picture.palette.count;
            default: return NONE;
        }
    }

    public void drop() {
        reading.fed.clear();
    }

    private void needPicture() throws IllegalStateException {
        if (!picture.there) {
            throw new IllegalStateException("there is no picture");
        }
    }

    private void needReading() throws IllegalStateException {
        if (!reading.isWhole) {
            throw new IllegalStateException("nothing was read");
        }
    }

    private void needWritten(int i) throws IndexOutOfBoundsException {
        if (!writing.out.has(i)) {
            throw new IndexOutOfBoundsException("no such byte was written");
        }
    }

    private void needRoom(int many) throws UnsupportedOperationException {
        if (many > FED_MOST - reading.fed.count) {
            throw new UnsupportedOperationException("no more bytes can be fed");
        }
    }

    private static void needByte(int b) throws IllegalArgumentException {
        if (!isByte(b)) {
            throw new IllegalArgumentException("a byte is 0 .. 255");
        }
    }

    private static boolean isByte(int b) {
        return b >= 0 && b <= 255;
    }

    /** Which sizes, kinds and bits may be. */
    private static final class Shape {
        static final int GREY = 0;
        static final int COLOURS = 2;
        static final int PALETTED = 3;
        static final int GREY_WITH_ALPHA = 4;
        static final int COLOURS_WITH_ALPHA = 6;

        static final int SIDE_MOST = 12;
        static final int CHANNELS_MOST = 4;
        static final int BITS_MOST = 8;

        static boolean mayBe(int width, int height, int bits, int kind) {
            return sideMayBe(width) && sideMayBe(height) && bitsMayBe(bits, kind);
        }

        static int channelsOf(int kind) {
            switch (kind) {
                case COLOURS: return 3;
                case GREY_WITH_ALPHA: return 2;
                case COLOURS_WITH_ALPHA: return 4;
                default: return 1;
            }
        }

        static int greatest(int bits) {
            return (1 << bits) - 1;
        }

        private static boolean sideMayBe(int side) {
            return side >= 1 && side <= SIDE_MOST;
        }

        private static boolean bitsMayBe(int bits, int kind) {
            switch (kind) {
                case GREY:
                case PALETTED:
                    return bits == 1 || bits == 2 || bits == 4 || bits == BITS_MOST;
                case COLOURS:
                case GREY_WITH_ALPHA:
                case COLOURS_WITH_ALPHA:
                    return bits == BITS_MOST;
                default:
                    return false;
            }
        }
    }

    /** The letters of chunks, as one number each, the first letter highest. */
    private static final class Letters {
        static final int IHDR = 0x49484452;
        static final int GAMA = 0x67414d41;
        static final int SRGB = 0x73524742;
        static final int PHYS = 0x70485973;
        static final int PLTE = 0x504c5445;
        static final int TRNS = 0x74524e53;
        static final int IDAT = 0x49444154;
        static final int IEND = 0x49454e44;

        static boolean mayBe(int letters) {
            return isLetter(letter(letters, 0))
                    && isLetter(letter(letters, 1))
                    && isGreat(letter(letters, 2))
                    && isLetter(letter(letters, 3));
        }

        static boolean areOfExtra(int letters) {
            return mayBe(letters)
                    && !firstIsGreat(letters)
                    && letters != GAMA
                    && letters != SRGB
                    && letters != PHYS
                    && letters != TRNS;
        }

        static boolean firstIsGreat(int letters) {
            return isGreat(letter(letters, 0));
        }

        static boolean fourthIsGreat(int letters) {
            return isGreat(letter(letters, 3));
        }

        private static int letter(int letters, int place) {
            return letters >>> (24 - 8 * place) & 255;
        }

        private static boolean isLetter(int c) {
            return isGreat(c) || c >= 'a' && c <= 'z';
        }

        private static boolean isGreat(int c) {
            return c >= 'A' && c <= 'Z';
        }
    }

    /** A row of bytes that grows up to its room, and how chunks stand in it. */
    private static final class Bytes {
        static final int FIRST_CHUNK = 8;
        static final int AROUND_DATA = 12;
        static final int BEFORE_DATA = 8;

        private static final int DATA_MOST = 255;

        /** The bytes that every file begins with. */
        private static final int[] BEGINNING = {137, 80, 78, 71, 13, 10, 26, 10};

        /** What four bits do to a sum: the steps of 0xEDB88320, four at a time. */
        private static final int[] SUM_STEPS = {
            0x00000000, 0x1db71064, 0x3b6e20c8, 0x26d930ac,
            0x76dc4190, 0x6b6b51f4, 0x4db26158, 0x5005713c,
            0xedb88320, 0xf00f9344, 0xd6d6a3e8, 0xcb61b38c,
            0x9b64c2b0, 0x86d3d2d4, 0xa00ae278, 0xbdbdf21c
        };

        private final int[] values;
        int count;

        Bytes(int room) {
            values = new int[room < 0 ? 0 : room];
        }

        void clear() {
            count = 0;
        }

        boolean has(int i) {
            return i >= 0 && i < count;
        }

        int value(int i) {
            return has(i) ? values[i] : 0;
        }

        void set(int i, int b) {
            if (has(i)) {
                values[i] = b;
            }
        }

        void add(int b) {
            if (count < values.length) {
                values[count] = b;
                count++;
            }
        }

        int number(int i) {
            return value(i) << 24 | value(i + 1) << 16 | value(i + 2) << 8 | value(i + 3);
        }

        void setNumber(int i, int number) {
            set(i, number >>> 24);
            set(i + 1, number >>> 16 & 255);
            set(i + 2, number >>> 8 & 255);
            set(i + 3, number & 255);
        }

        void addNumber(int number) {
            add(number >>> 24);
            add(number >>> 16 & 255);
            add(number >>> 8 & 255);
            add(number & 255);
        }

        void addBeginning() {
            for (int i = 0; i < BEGINNING.length; i++) {
                add(BEGINNING[i]);
            }
        }

        boolean hasBeginning() {
            for (int i = 0; i < BEGINNING.length; i++) {
                if (!has(i) || value(i) != BEGINNING[i]) {
                    return false;
                }
            }
            return true;
        }

        static boolean dataLengthMayBe(int length) {
            return length >= 0 && length <= DATA_MOST;
        }

        boolean hasWholeChunk(int place, int length) {
            return count - place >= AROUND_DATA + length;
        }

        boolean sumIsRight(int place, int length) {
            return number(sumPlace(place, length)) == rightSum(place, length);
        }

        /** The sum that the chunk at a place should have: of its letters and data. */
        int rightSum(int place, int length) {
            int end = sumPlace(place, length);
            int sum = -1;
            for (int i = place + 4; i < end; i++) {
                sum = sum ^ value(i);
                sum = sum >>> 4 ^ SUM_STEPS[sum & 15];
                sum = sum >>> 4 ^ SUM_STEPS[sum & 15];
            }
            return ~sum;
        }

        /** Makes the sum right of the chunk that byte i is in, if chunks can be told as far as there. */
        void mendSum(int i) {
            int length = 0;
            for (int place = FIRST_CHUNK; place <= i; place += AROUND_DATA + length) {
                if (!hasWholeChunk(place, 0)) {
                    return;
                }
                length = number(place);
                if (!dataLengthMayBe(length) || !hasWholeChunk(place, length)) {
                    return;
                }
                if (i < place + AROUND_DATA + length) {
                    setNumber(sumPlace(place, length), rightSum(place, length));
                    return;
                }
            }
        }

        private static int sumPlace(int place, int length) {
            return place + BEFORE_DATA + length;
        }
    }

    /** Entries of red, green, blue and alpha. */
    private static final class Palette {
        static final int PARTS = 4;
        static final int ALPHA = 3;
        static final int OPAQUE = 255;
        static final int ENTRIES_MOST = 64;

        private final int[] parts = new int[ENTRIES_MOST * PARTS];
        int count;

        static int most(int bits) {
            return Math.min(ENTRIES_MOST, Shape.greatest(bits) + 1);
        }

        void clear() {
            count = 0;
        }

        boolean has(int k) {
            return k >= 0 && k < count;
        }

        int part(int k, int what) {
            return has(k) && what >= 0 && what < PARTS ? parts[k * PARTS + what] : 0;
        }

        void add(int red, int green, int blue, int alpha) {
            if (count < ENTRIES_MOST) {
                int place = count * PARTS;
                parts[place] = red;
                parts[place + 1] = green;
                parts[place + 2] = blue;
                parts[place + ALPHA] = alpha;
                count++;
            }
        }

        void setAlpha(int k, int alpha) {
            if (has(k)) {
                parts[k * PARTS + ALPHA] = alpha;
            }
        }

        /** How many alphas a file must tell: as far as the last one that is not 255. */
        int alphasToTell() {
            int many = count;
            while (many > 0 && part(many - 1, ALPHA) == OPAQUE) {
                many--;
            }
            return many;
        }

        void copyFrom(Palette other) {
            count = other.count;
            System.arraycopy(other.parts, 0, parts, 0, parts.length);
        }
    }

    /** The gamma, the intent and the samples a metre, NONE for one that there is not. */
    private static final class Tags {
        static final int GAMMA = 0;
        static final int INTENT = 1;
        static final int SAMPLES_A_METRE = 2;

        private static final int HOW_MANY = 3;
        private static final int INTENT_MOST = 3;

        private final int[] values = {NONE, NONE, NONE};

        static boolean isTag(int what) {
            return what >= 0 && what < HOW_MANY;
        }

        static boolean mayBe(int what, int v) {
            return what == INTENT ? v >= 0 && v <= INTENT_MOST : v >= 1;
        }

        void clear() {
            Arrays.fill(values, NONE);
        }

        boolean has(int what) {
            return value(what) != NONE;
        }

        int value(int what) {
            return isTag(what) ? values[what] : NONE;
        }

        void set(int what, int v) {
            if (isTag(what)) {
                values[what] = v;
            }
        }

        void copyFrom(Tags other) {
            System.arraycopy(other.values, 0, values, 0, values.length);
        }
    }

    /** Chunks of others, in order. */
    private static final class Extras {
        static final int BYTES_MOST = 40;

        private static final int EXTRAS_MOST = 6;

        private final int[] letters = new int[EXTRAS_MOST];
        private final int[] lengths = new int[EXTRAS_MOST];
        private final int[] bytes = new int[EXTRAS_MOST * BYTES_MOST];
        int count;

        void clear() {
            count = 0;
        }

        boolean isFull() {
            return count >= EXTRAS_MOST;
        }

        boolean has(int k) {
            return k >= 0 && k < count;
        }

        int lettersOf(int k) {
            return has(k) ? letters[k] : 0;
        }

        int lengthOf(int k) {
            return has(k) ? lengths[k] : 0;
        }

        int value(int k, int i) {
            return i >= 0 && i < lengthOf(k) ? bytes[k * BYTES_MOST + i] : 0;
        }

        void add(int four) {
            if (!isFull()) {
                letters[count] = four;
                lengths[count] = 0;
                count++;
            }
        }

        void addByte(int k, int b) {
            if (has(k) && lengths[k] < BYTES_MOST) {
                bytes[k * BYTES_MOST + lengths[k]] = b;
                lengths[k]++;
            }
        }

        /** A great fourth letter says that the chunk may be untrue for another picture. */
        void leaveOnlySafeOnes() {
            int kept = 0;
            for (int k = 0; k < count; k++) {
                if (!Letters.fourthIsGreat(letters[k])) {
                    move(k, kept);
                    kept++;
                }
            }
            count = kept;
        }

        void copyFrom(Extras other) {
            count = other.count;
            System.arraycopy(other.letters, 0, letters, 0, letters.length);
            System.arraycopy(other.lengths, 0, lengths, 0, lengths.length);
            System.arraycopy(other.bytes, 0, bytes, 0, bytes.length);
        }

        private void move(int from, int to) {
            if (from != to) {
                letters[to] = letters[from];
                lengths[to] = lengths[from];
                System.arraycopy(bytes, from * BYTES_MOST, bytes, to * BYTES_MOST, BYTES_MOST);
            }
        }
    }

    /** A picture with all that belongs to it; a new one is not there yet. */
    private static final class Picture {
        private static final int SAMPLES_MOST =
                Shape.SIDE_MOST * Shape.SIDE_MOST * Shape.CHANNELS_MOST;

        final Palette palette = new Palette();
        final Tags tags = new Tags();
        final Extras extras = new Extras();
        private final int[] samples = new int[SAMPLES_MOST];
        boolean there;
        int width = 1;
        int height = 1;
        int bits = Shape.BITS_MOST;
        int kind = Shape.GREY;
        int channels = 1;

        void begin(int newWidth, int newHeight, int newBits, int newKind) {
            there = true;
            width = newWidth;
            height = newHeight;
            bits = newBits;
            kind = newKind;
            channels = Shape.channelsOf(newKind);
            Arrays.fill(samples, 0);
            palette.clear();
            tags.clear();
            extras.clear();
        }

        void become(int newKind, int newBits) {
            kind = newKind;
            bits = newBits;
            channels = Shape.channelsOf(newKind);
        }

        boolean has(int x, int y, int channel) {
            return x >= 0 && x < width && y >= 0 && y < height && channel >= 0 && channel < channels;
        }

        int sample(int x, int y, int channel) {
            return has(x, y, channel) ? samples[placeOf(x, y, channel)] : 0;
        }

        void setSample(int x, int y, int channel, int v) {
            if (has(x, y, channel)) {
                samples[placeOf(x, y, channel)] = v;
            }
        }

        boolean sampleMayBe(int v) {
            return v >= 0
                    && v <= Shape.greatest(bits)
                    && (kind != Shape.PALETTED || palette.has(v));
        }

        void hasChanged() {
            extras.leaveOnlySafeOnes();
        }

        void copyFrom(Picture other) {
            there = other.there;
            width = other.width;
            height = other.height;
            bits = other.bits;
            kind = other.kind;
            channels = other.channels;
            System.arraycopy(other.samples, 0, samples, 0, samples.length);
            palette.copyFrom(other.palette);
            tags.copyFrom(other.tags);
            extras.copyFrom(other.extras);
        }

        /** Places do not hang on the kind, so that a lessened picture's samples stay where they are. */
        private static int placeOf(int x, int y, int channel) {
            return (y * Shape.SIDE_MOST + x) * Shape.CHANNELS_MOST + channel;
        }
    }

    /** How samples stand in bytes: a byte 0 for each row, then samples, the highest bits first. */
    private static final class Rows {
        static final int BYTES_MOST =
                Shape.SIDE_MOST * (1 + Shape.SIDE_MOST * Shape.CHANNELS_MOST);

        static int lengthOf(Picture p) {
            return rowLength(p) * p.height;
        }

        static void pack(Picture p, Bytes rows) {
            rows.clear();
            for (int y = 0; y < p.height; y++) {
                rows.add(0);
                packRow(p, y, rows);
            }
        }

        /** Sets the samples from the bytes of all rows: whether these are right. */
        static boolean unpack(Bytes rows, Picture p) {
            int rowLength = rowLength(p);
            for (int y = 0; y < p.height; y++) {
                int first = y * rowLength;
                if (rows.value(first) != 0
                        || !isFilledWithNought(rows.value(first + rowLength - 1), p)
                        || !unpackRow(rows, first + 1, p, y)) {
                    return false;
                }
            }
            return true;
        }

        private static void packRow(Picture p, int y, Bytes rows) {
            int packed = 0;
            int used = 0;
            for (int x = 0; x < p.width; x++) {
                for (int channel = 0; channel < p.channels; channel++) {
                    packed = packed << p.bits | p.sample(x, y, channel);
                    used += p.bits;
                    if (used == 8) {
                        rows.add(packed);
                        packed = 0;
                        used = 0;
                    }
                }
            }
            if (used > 0) {
                rows.add(packed << 8 - used);
            }
        }

        private static boolean unpackRow(Bytes rows, int first, Picture p, int y) {
            int bit = 0;
            for (int x = 0; x < p.width; x++) {
                for (int channel = 0; channel < p.channels; channel++) {
                    int shift = 8 - p.bits - (bit & 7);
                    int v = rows.value(first + (bit >> 3)) >>> shift & Shape.greatest(p.bits);
                    if (!p.sampleMayBe(v)) {
                        return false;
                    }
                    p.setSample(x, y, channel, v);
                    bit += p.bits;
                }
            }
            return true;
        }

        private static boolean isFilledWithNought(int lastByte, Picture p) {
            int used = rowBits(p) & 7;
            return used == 0 || (lastByte & Shape.greatest(8 - used)) == 0;
        }

        private static int rowLength(Picture p) {
            return 1 + (rowBits(p) + 7) / 8;
        }

        private static int rowBits(Picture p) {
            return p.width * p.channels * p.bits;
        }
    }

    /** Fewer kinds and bits for a picture, without loss. */
    private static final class Lessening {
        static void lessen(Picture p) {
            int kind = p.kind;
            int bits = p.bits;
            lessenAlpha(p);
            lessenColours(p);
            if (p.kind == Shape.GREY) {
                lessenGreyBits(p);
            } else if (p.kind == Shape.PALETTED) {
                lessenPaletteBits(p);
            }
            if (p.kind != kind || p.bits != bits) {
                p.hasChanged();
            }
        }

        private static void lessenAlpha(Picture p) {
            if (p.kind == Shape.COLOURS_WITH_ALPHA && isOpaque(p)) {
                p.become(Shape.COLOURS, p.bits);
            } else if (p.kind == Shape.GREY_WITH_ALPHA && isOpaque(p)) {
                p.become(Shape.GREY, p.bits);
            }
        }

        private static void lessenColours(Picture p) {
            if (p.kind == Shape.COLOURS && isGreyEverywhere(p)) {
                p.become(Shape.GREY, p.bits);
            }
        }

        private static void lessenGreyBits(Picture p) {
            for (int bits = 1; bits < p.bits; bits = 2 * bits) {
                int step = stepOf(p.bits, bits);
                if (allAreTimes(p, step)) {
                    divideAll(p, step);
                    p.become(Shape.GREY, bits);
                    return;
                }
            }
        }

        /** What 1 of the fewer bits is in the bits before: 255, 85 or 17 for 8 bits. */
        private static int stepOf(int before, int fewer) {
            int greatest = Shape.greatest(fewer);
            return greatest > 0 ? Shape.greatest(before) / greatest : 0;
        }

        private static void lessenPaletteBits(Picture p) {
            for (int bits = 1; bits < p.bits; bits = 2 * bits) {
                if (p.palette.count <= Palette.most(bits)) {
                    p.become(Shape.PALETTED, bits);
                    return;
                }
            }
        }

        private static boolean isOpaque(Picture p) {
            int alpha = p.channels - 1;
            for (int y = 0; y < p.height; y++) {
                for (int x = 0; x < p.width; x++) {
                    if (p.sample(x, y, alpha) != Palette.OPAQUE) {
                        return false;
                    }
                }
            }
            return true;
        }

        private static boolean isGreyEverywhere(Picture p) {
            for (int y = 0; y < p.height; y++) {
                for (int x = 0; x < p.width; x++) {
                    int red = p.sample(x, y, 0);
                    if (p.sample(x, y, 1) != red || p.sample(x, y, 2) != red) {
                        return false;
                    }
                }
            }
            return true;
        }

        private static boolean allAreTimes(Picture p, int step) {
            for (int y = 0; y < p.height; y++) {
                for (int x = 0; x < p.width; x++) {
                    if (step < 1 || p.sample(x, y, 0) % step != 0) {
                        return false;
                    }
                }
            }
            return true;
        }

        private static void divideAll(Picture p, int step) {
            for (int y = 0; y < p.height; y++) {
                for (int x = 0; x < p.width && step > 0; x++) {
                    p.setSample(x, y, 0, p.sample(x, y, 0) / step);
                }
            }
        }
    }

    /** The file that was written latest, and how a picture becomes one. */
    private static final class Writing {
        /** Colours with alpha, 12 by 12, with all tags and full extras take 1,115 bytes: no file more. */
        private static final int WRITTEN_MOST = 1115;
        private static final int ROWS_CUT = 60;

        final Bytes out = new Bytes(WRITTEN_MOST);
        private final Bytes rows = new Bytes(Rows.BYTES_MOST);
        private int opened;

        void run(Picture p) {
            out.clear();
            out.addBeginning();
            addHead(p);
            addTags(p.tags);
            if (p.kind == Shape.PALETTED) {
                addPalette(p.palette);
                addAlphas(p.palette);
            }
            addRows(p);
            addExtras(p.extras);
            open(Letters.IEND);
            close();
        }

        /** The number of bytes is not known yet: close sets it. */
        private void open(int letters) {
            opened = out.count;
            out.addNumber(0);
            out.addNumber(letters);
        }

        private void close() {
            int length = out.count - opened - Bytes.BEFORE_DATA;
            out.setNumber(opened, length);
            out.addNumber(out.rightSum(opened, length));
        }

        private void addHead(Picture p) {
            open(Letters.IHDR);
            out.addNumber(p.width);
            out.addNumber(p.height);
            out.add(p.bits);
            out.add(p.kind);
            out.add(0);
            out.add(0);
            out.add(0);
            close();
        }

        private void addTags(Tags tags) {
            if (tags.has(Tags.GAMMA)) {
                open(Letters.GAMA);
                out.addNumber(tags.value(Tags.GAMMA));
                close();
            }
            if (tags.has(Tags.INTENT)) {
                open(Letters.SRGB);
                out.add(tags.value(Tags.INTENT));
                close();
            }
            if (tags.has(Tags.SAMPLES_A_METRE)) {
                open(Letters.PHYS);
                out.addNumber(tags.value(Tags.SAMPLES_A_METRE));
                out.addNumber(tags.value(Tags.SAMPLES_A_METRE));
                out.add(1);
                close();
            }
        }

        private void addPalette(Palette palette) {
            open(Letters.PLTE);
            for (int k = 0; k < palette.count; k++) {
                for (int what = 0; what < Palette.ALPHA; what++) {
                    out.add(palette.part(k, what));
                }
            }
            close();
        }

        private void addAlphas(Palette palette) {
            int many = palette.alphasToTell();
            if (many > 0) {
                open(Letters.TRNS);
                for (int k = 0; k < many; k++) {
                    out.add(palette.part(k, Palette.ALPHA));
                }
                close();
            }
        }

        private void addRows(Picture p) {
            Rows.pack(p, rows);
            for (int from = 0; from < rows.count; from += ROWS_CUT) {
                int end = Math.min(rows.count, from + ROWS_CUT);
                open(Letters.IDAT);
                for (int i = from; i < end; i++) {
                    out.add(rows.value(i));
                }
                close();
            }
        }

        private void addExtras(Extras extras) {
            for (int k = 0; k < extras.count; k++) {
                open(extras.lettersOf(k));
                for (int i = 0; i < extras.lengthOf(k); i++) {
                    out.add(extras.value(k, i));
                }
                close();
            }
        }
    }

    /** The bytes that were fed, what the latest reading made of them, and how far it came. */
    private static final class Reading {
        private static final int NO_FAULT = 0;
        private static final int CUT = 1;
        private static final int LENGTH = 2;
        private static final int LETTERS = 3;
        private static final int SUM = 4;
        private static final int ORDER = 5;
        private static final int UNKNOWN = 6;
        private static final int VALUE = 7;
        private static final int DATA = 8;

        final Bytes fed = new Bytes(FED_MOST);
        final Picture picture = new Picture();
        private final Bytes rows = new Bytes(Rows.BYTES_MOST);

        boolean isWhole;
        int fault;
        int place;
        int chunks;
        int leftOut;

        private int length;
        private int letters;
        private int rowBytes;
        private boolean headCame;
        private boolean paletteCame;
        private boolean alphasCame;
        private boolean rowsCame;
        private boolean rowsEnded;

        void run() {
            begin();
            // every chunk takes some bytes, so there are fewer chunks than bytes
            for (int n = 0; n < FED_MOST && fault == NO_FAULT && !isWhole; n++) {
                fault = readChunk();
                if (fault == NO_FAULT && letters == Letters.IEND) {
                    fault = end();
                }
                if (fault == NO_FAULT) {
                    place += Bytes.AROUND_DATA + length;
                }
            }
        }

        private void begin() {
            boolean hasBeginning = fed.hasBeginning();
            isWhole = false;
            fault = hasBeginning ? NO_FAULT : CUT;
            place = hasBeginning ? Bytes.FIRST_CHUNK : 0;
            chunks = 0;
            leftOut = 0;
            rowBytes = 0;
            rows.clear();
            headCame = false;
            paletteCame = false;
            alphasCame = false;
            rowsCame = false;
            rowsEnded = false;
        }

        private int readChunk() {
            int broken = frameFault();
            if (broken != NO_FAULT) {
                return broken;
            }
            if (!fed.sumIsRight(place, length)) {
                return leaveOut();
            }
            if (orderIsWrong()) {
                return ORDER;
            }
            if (isUnknown()) {
                return UNKNOWN;
            }
            if (!takeIn()) {
                return VALUE;
            }
            chunks++;
            noteRowsEnd();
            return NO_FAULT;
        }

        private int frameFault() {
            if (!fed.hasWholeChunk(place, 0)) {
                return CUT;
            }
            length = fed.number(place);
            if (!Bytes.dataLengthMayBe(length)) {
                return LENGTH;
            }
            if (!fed.hasWholeChunk(place, length)) {
                return CUT;
            }
            letters = fed.number(place + 4);
            return Letters.mayBe(letters) ? NO_FAULT : LETTERS;
        }

        private int leaveOut() {
            if (Letters.firstIsGreat(letters)) {
                return SUM;
            }
            leftOut++;
            noteRowsEnd();
            return NO_FAULT;
        }

        private void noteRowsEnd() {
            rowsEnded = rowsCame && letters != Letters.IDAT;
        }

        private boolean orderIsWrong() {
            if (!headCame) {
                return letters != Letters.IHDR;
            }
            switch (letters) {
                case Letters.IHDR:
                    return true;
                case Letters.GAMA:
                    return rowsCame || paletteCame || picture.tags.has(Tags.GAMMA);
                case Letters.SRGB:
                    return rowsCame || paletteCame || picture.tags.has(Tags.INTENT);
                case Letters.PHYS:
                    return rowsCame || picture.tags.has(Tags.SAMPLES_A_METRE);
                case Letters.PLTE:
                    return rowsCame || paletteCame || isGreyKind();
                case Letters.TRNS:
                    return rowsCame || alphasCame || !paletteCame;
                case Letters.IDAT:
                    return rowsEnded || picture.kind == Shape.PALETTED && !paletteCame;
                case Letters.IEND:
                    return !rowsCame;
                default:
                    return false;
            }
        }

        private boolean isGreyKind() {
            return picture.kind == Shape.GREY || picture.kind == Shape.GREY_WITH_ALPHA;
        }

        private boolean isUnknown() {
            return Letters.firstIsGreat(letters)
                    && letters != Letters.IHDR
                    && letters != Letters.PLTE
                    && letters != Letters.IDAT
                    && letters != Letters.IEND;
        }

        /** Takes a chunk's data in: whether they are right. */
        private boolean takeIn() {
            int data = place + Bytes.BEFORE_DATA;
            switch (letters) {
                case Letters.IHDR:
                    return takeHead(data);
                case Letters.GAMA:
                    return length == 4 && takeTag(Tags.GAMMA, fed.number(data));
                case Letters.SRGB:
                    return length == 1 && takeTag(Tags.INTENT, fed.value(data));
                case Letters.PHYS:
                    return length == 9
                            && fed.number(data) == fed.number(data + 4)
                            && fed.value(data + 8) == 1
                            && takeTag(Tags.SAMPLES_A_METRE, fed.number(data));
                case Letters.PLTE:
                    return takePalette(data);
                case Letters.TRNS:
                    return takeAlphas(data);
                case Letters.IDAT:
                    return takeRows(data);
                case Letters.IEND:
                    return length == 0;
                default:
                    return takeExtra(data);
            }
        }

        private boolean takeHead(int data) {
            int width = fed.number(data);
            int height = fed.number(data + 4);
            int bits = fed.value(data + 8);
            int kind = fed.value(data + 9);
            if (length != 13
                    || !Shape.mayBe(width, height, bits, kind)
                    || fed.value(data + 10) != 0
                    || fed.value(data + 11) != 0
                    || fed.value(data + 12) != 0) {
                return false;
            }
            picture.begin(width, height, bits, kind);
            headCame = true;
            return true;
        }

        private boolean takeTag(int what, int v) {
            if (!Tags.mayBe(what, v)) {
                return false;
            }
            picture.tags.set(what, v);
            return true;
        }

        private boolean takePalette(int data) {
            int entries = length / 3;
            if (length % 3 != 0 || entries < 1 || entries > Palette.most(picture.bits)) {
                return false;
            }
            paletteCame = true;
            // for other kinds a palette is advice only, and is passed over
            for (int k = 0; k < entries && picture.kind == Shape.PALETTED; k++) {
                int from = data + 3 * k;
                picture.palette.add(
                        fed.value(from), fed.value(from + 1), fed.value(from + 2), Palette.OPAQUE);
            }
            return true;
        }

        private boolean takeAlphas(int data) {
            if (picture.kind != Shape.PALETTED || length < 1 || length > picture.palette.count) {
                return false;
            }
            alphasCame = true;
            for (int k = 0; k < length; k++) {
                picture.palette.setAlpha(k, fed.value(data + k));
            }
            return true;
        }

        /** More bytes than the rows can have are counted, but not kept: they are a fault at the end. */
        private boolean takeRows(int data) {
            rowsCame = true;
            rowBytes += length;
            for (int i = 0; i < length; i++) {
                rows.add(fed.value(data + i));
            }
            return true;
        }

        private boolean takeExtra(int data) {
            if (length > Extras.BYTES_MOST || picture.extras.isFull()) {
                return false;
            }
            int k = picture.extras.count;
            picture.extras.add(letters);
            for (int i = 0; i < length; i++) {
                picture.extras.addByte(k, fed.value(data + i));
            }
            return true;
        }

        private int end() {
            if (rowBytes != Rows.lengthOf(picture) || !Rows.unpack(rows, picture)) {
                return DATA;
            }
            isWhole = true;
            return NO_FAULT;
        }
    }
}
