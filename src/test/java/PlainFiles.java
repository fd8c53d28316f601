import java.util.ArrayList;
import java.util.Arrays;
import java.util.List;

/**
 * The whole document a second time, without a thought of room or speed: lists and texts, each call
 * by its own words. It has the names of the face, so that a test can ask both the same.
 */
public final class PlainFiles {
    private static final List<String> SHAPES = Arrays.asList("1 of 0", "2 of 0", "4 of 0", "8 of 0",
            "8 of 2", "1 of 3", "2 of 3", "4 of 3", "8 of 3", "8 of 4", "8 of 6");

    static final class Extra {
        final String letters;
        final List<Integer> bytes = new ArrayList<>();

        Extra(String letters) {
            this.letters = letters;
        }
    }

    static final class Picture {
        int width;
        int height;
        int bits;
        int kind;
        int[][][] samples;
        final List<int[]> palette = new ArrayList<>();
        final int[] tags = {-1, -1, -1};
        final List<Extra> extras = new ArrayList<>();

        Picture(int width, int height, int bits, int kind) {
            this.width = width;
            this.height = height;
            this.bits = bits;
            this.kind = kind;
            samples = new int[height][width][channels()];
        }

        int channels() {
            return kind == 2 ? 3 : kind == 4 ? 2 : kind == 6 ? 4 : 1;
        }

        int entriesMost() {
            return Math.min(64, 1 << bits);
        }

        boolean has(int x, int y, int channel) {
            return 0 <= x && x < width && 0 <= y && y < height && 0 <= channel && channel < channels();
        }

        void changed() {
            extras.removeIf(e -> Character.isUpperCase(e.letters.charAt(3)));
        }
    }

    Picture picture;
    Picture read;
    int leftOut;
    int fault;
    List<Integer> written = new ArrayList<>();
    List<Integer> fed = new ArrayList<>();

    private static void index(boolean may) {
        if (!may) {
            throw new IndexOutOfBoundsException();
        }
    }

    private static void state(boolean may) {
        if (!may) {
            throw new IllegalStateException();
        }
    }

    private static void argument(boolean may) {
        if (!may) {
            throw new IllegalArgumentException();
        }
    }

    private static void room(boolean may) {
        if (!may) {
            throw new UnsupportedOperationException();
        }
    }

    private static boolean octet(int b) {
        return (b & 255) == b;
    }

    public void head(int width, int height, int bits, int kind) {
        argument(1 <= width && width <= 12 && 1 <= height && height <= 12);
        argument(SHAPES.contains(bits + " of " + kind));
        picture = new Picture(width, height, bits, kind);
    }

    public int colour(int red, int green, int blue, int alpha) {
        state(picture != null && picture.kind == 3);
        argument(octet(red) && octet(green) && octet(blue) && octet(alpha));
        room(picture.palette.size() < picture.entriesMost());
        picture.palette.add(new int[] {red, green, blue, alpha});
        picture.changed();
        return picture.palette.size();
    }

    public int put(int x, int y, int channel, int v) {
        state(picture != null);
        index(picture.has(x, y, channel));
        argument(0 <= v && v < 1 << picture.bits);
        argument(picture.kind != 3 || v < picture.palette.size());
        int was = picture.samples[y][x][channel];
        picture.samples[y][x][channel] = v;
        if (was != v) {
            picture.changed();
        }
        return was;
    }

    public int tag(int what, int v) {
        state(picture != null);
        argument(0 <= what && what <= 2);
        argument(v == -1 || (what == 1 ? 0 <= v && v <= 3 : 1 <= v));
        int was = picture.tags[what];
        picture.tags[what] = v;
        return was;
    }

    public int extra(int letters) {
        state(picture != null);
        StringBuilder four = new StringBuilder();
        for (int shift = 24; shift >= 0; shift -= 8) {
            four.append((char) (letters >> shift & 255));
        }
        argument(four.toString().matches("[a-z][a-zA-Z][A-Z][a-zA-Z]"));
        argument(!Arrays.asList("gAMA", "sRGB", "pHYs", "tRNS").contains(four.toString()));
        room(picture.extras.size() < 6);
        picture.extras.add(new Extra(four.toString()));
        return picture.extras.size();
    }

    public int byteOf(int extra, int b) {
        state(picture != null);
        index(0 <= extra && extra < picture.extras.size());
        argument(octet(b));
        List<Integer> bytes = picture.extras.get(extra).bytes;
        room(bytes.size() < 40);
        bytes.add(b);
        return bytes.size();
    }

    public int reduce() {
        state(picture != null);
        int before = 10 * picture.kind + picture.bits;
        if ((picture.kind == 6 || picture.kind == 4) && alphasAre255()) {
            become(picture.kind - 4);
        }
        if (picture.kind == 2 && partsAreEqual()) {
            become(0);
        }
        if (picture.kind == 0) {
            fewestGreyBits();
        }
        for (int bits : new int[] {4, 2, 1}) {
            if (picture.kind == 3 && bits < picture.bits && picture.palette.size() <= 1 << bits) {
                picture.bits = bits;
            }
        }
        int after = 10 * picture.kind + picture.bits;
        if (after != before) {
            picture.changed();
        }
        return after;
    }

    private boolean alphasAre255() {
        return Arrays.stream(picture.samples).flatMap(Arrays::stream).allMatch(p -> p[p.length - 1] == 255);
    }

    private boolean partsAreEqual() {
        return Arrays.stream(picture.samples).flatMap(Arrays::stream).allMatch(p -> p[0] == p[1] && p[1] == p[2]);
    }

    private void become(int kind) {
        picture.kind = kind;
        for (int[][] row : picture.samples) {
            for (int x = 0; x < row.length; x++) {
                row[x] = Arrays.copyOf(row[x], picture.channels());
            }
        }
    }

    /** Each lesser number of bits is tried by itself: s = k times before / after, for a whole k. */
    private void fewestGreyBits() {
        int before = (1 << picture.bits) - 1;
        for (int bits : new int[] {1, 2, 4}) {
            int after = (1 << bits) - 1;
            if (bits < picture.bits
                    && Arrays.stream(picture.samples).flatMap(Arrays::stream).allMatch(p -> p[0] * after % before == 0)) {
                Arrays.stream(picture.samples).flatMap(Arrays::stream).forEach(p -> p[0] = p[0] * after / before);
                picture.bits = bits;
                return;
            }
        }
    }

    public int write() {
        state(picture != null && (picture.kind != 3 || !picture.palette.isEmpty()));
        ChunkFile file = ChunkFile.head(picture.width, picture.height, picture.bits, picture.kind);
        writeTags(file);
        if (picture.kind == 3) {
            writePalette(file);
        }
        int[] rows = rows();
        for (int from = 0; from < rows.length; from += 60) {
            file.chunk("IDAT", Arrays.copyOfRange(rows, from, Math.min(from + 60, rows.length)));
        }
        for (Extra e : picture.extras) {
            file.chunk(e.letters, ints(e.bytes));
        }
        file.chunk("IEND");
        written = list(file.values());
        return written.size();
    }

    private void writeTags(ChunkFile file) {
        int[] gamma = new ChunkFile().number(picture.tags[0]).values();
        int[] metre = new ChunkFile().number(picture.tags[2]).number(picture.tags[2]).raw(1).values();
        if (picture.tags[0] != -1) {
            file.chunk("gAMA", gamma);
        }
        if (picture.tags[1] != -1) {
            file.chunk("sRGB", picture.tags[1]);
        }
        if (picture.tags[2] != -1) {
            file.chunk("pHYs", metre);
        }
    }

    private void writePalette(ChunkFile file) {
        List<Integer> colours = new ArrayList<>();
        List<Integer> alphas = new ArrayList<>();
        int far = 0;
        for (int[] entry : picture.palette) {
            colours.addAll(Arrays.asList(entry[0], entry[1], entry[2]));
            alphas.add(entry[3]);
            far = entry[3] != 255 ? alphas.size() : far;
        }
        file.chunk("PLTE", ints(colours));
        if (far > 0) {
            file.chunk("tRNS", ints(alphas.subList(0, far)));
        }
    }

    private int[] rows() {
        List<Integer> bytes = new ArrayList<>();
        for (int[][] row : picture.samples) {
            StringBuilder text = new StringBuilder("00000000");
            for (int[] parts : row) {
                for (int v : parts) {
                    text.append(Integer.toBinaryString((1 << picture.bits) + v).substring(1));
                }
            }
            while (text.length() % 8 != 0) {
                text.append('0');
            }
            for (int i = 0; i < text.length(); i += 8) {
                bytes.add(Integer.parseInt(text.substring(i, i + 8), 2));
            }
        }
        return ints(bytes);
    }

    public int byteAt(int i) {
        index(0 <= i && i < written.size());
        return written.get(i);
    }

    public int feed(int b) {
        argument(octet(b));
        room(fed.size() < 2000);
        fed.add(b);
        return fed.size();
    }

    public int pass(int from, int n) {
        index(0 <= from && from < written.size());
        argument(n >= 0);
        List<Integer> some = written.subList(from, (int) Math.min(written.size(), (long) from + n));
        room(fed.size() + some.size() <= 2000);
        fed.addAll(some);
        return some.size();
    }

    public int alter(int i, int b, boolean mends) {
        index(0 <= i && i < fed.size());
        argument(octet(b));
        int was = fed.get(i);
        int[] bytes = ints(fed);
        bytes[i] = b;
        if (mends) {
            PlainReader.mend(bytes, i);
        }
        fed = list(bytes);
        return was;
    }

    public int read() {
        PlainReader reader = new PlainReader(ints(fed));
        fault = reader.fault;
        leftOut = reader.count(true);
        read = fault == 0 ? pictureOf(reader) : null;
        return reader.answer();
    }

    private static Picture pictureOf(PlainReader reader) {
        Picture p = new Picture(reader.width, reader.height, reader.bits, reader.kind);
        int k = 0;
        for (int[][] row : p.samples) {
            for (int[] parts : row) {
                for (int channel = 0; channel < parts.length; channel++) {
                    parts[channel] = reader.samples.get(k);
                    k++;
                }
            }
        }
        int[] gamma = reader.dataOf("gAMA");
        int[] intent = reader.dataOf("sRGB");
        int[] metre = reader.dataOf("pHYs");
        p.tags[0] = gamma == null ? -1 : (int) PlainReader.number(gamma, 0);
        p.tags[1] = intent == null ? -1 : intent[0];
        p.tags[2] = metre == null ? -1 : (int) PlainReader.number(metre, 0);
        int[] colours = reader.kind == 3 ? reader.dataOf("PLTE") : new int[0];
        int[] alphas = reader.dataOf("tRNS");
        for (int i = 0; i < colours.length; i += 3) {
            int alpha = alphas == null || alphas.length <= i / 3 ? 255 : alphas[i / 3];
            p.palette.add(new int[] {colours[i], colours[i + 1], colours[i + 2], alpha});
        }
        for (PlainReader.Chunk c : reader.extras()) {
            Extra extra = new Extra(c.letters);
            extra.bytes.addAll(list(c.data));
            p.extras.add(extra);
        }
        return p;
    }

    public int at(int x, int y, int channel) {
        state(read != null);
        index(read.has(x, y, channel));
        return read.samples[y][x][channel];
    }

    public int found(int what) {
        state(read != null);
        List<Integer> all = Arrays.asList(read.width, read.height, read.bits, read.kind, read.palette.size(),
                read.tags[0], read.tags[1], read.tags[2], read.extras.size(), leftOut);
        return 0 <= what && what < all.size() ? all.get(what) : -1;
    }

    public int entry(int k, int what) {
        state(read != null);
        index(0 <= k && k < read.palette.size());
        argument(0 <= what && what <= 3);
        return read.palette.get(k)[what];
    }

    public int unknown(int k, int i) {
        state(read != null);
        index(0 <= k && k < read.extras.size());
        index(-1 <= i && i < read.extras.get(k).bytes.size());
        return i == -1 ? ChunkFile.letters(read.extras.get(k).letters) : read.extras.get(k).bytes.get(i);
    }

    /** A copy, so that what was read stays as it is when the picture is changed. */
    public void take() {
        state(read != null);
        Picture p = new Picture(read.width, read.height, read.bits, read.kind);
        for (int y = 0; y < p.height; y++) {
            for (int x = 0; x < p.width; x++) {
                p.samples[y][x] = read.samples[y][x].clone();
            }
        }
        p.palette.addAll(read.palette);
        System.arraycopy(read.tags, 0, p.tags, 0, 3);
        for (Extra e : read.extras) {
            Extra copy = new Extra(e.letters);
            copy.bytes.addAll(e.bytes);
            p.extras.add(copy);
        }
        picture = p;
    }

    public int told(int what) {
        boolean none = picture == null;
        List<Integer> all = Arrays.asList(fault, none ? -1 : picture.kind, none ? -1 : picture.bits,
                none ? 0 : picture.extras.size(), written.size(), fed.size(), none ? 0 : picture.palette.size());
        return 0 <= what && what < all.size() ? all.get(what) : -1;
    }

    public void drop() {
        fed.clear();
    }

    private static int[] ints(List<Integer> values) {
        return values.stream().mapToInt(Integer::intValue).toArray();
    }

    private static List<Integer> list(int[] values) {
        List<Integer> all = new ArrayList<>();
        for (int v : values) {
            all.add(v);
        }
        return all;
    }
}
