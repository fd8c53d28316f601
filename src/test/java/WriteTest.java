import java.util.Arrays;

/** THE FILE, and promises 9 and 10: write and byteAt. */
public final class WriteTest {
    public static void main(String[] args) {
        beginning();
        chunksOfFourParts();
        sums();
        numbersOfFourBytes();
        heads();
        tagsThatThereAre();
        palettes();
        alphas();
        rowsAreCut();
        rowsBeginWithNought();
        samplesByColumnsAndChannels();
        lastBytesAreFilled();
        extrasInOrder();
        end();
        countsBytes();
        needsAPictureWithEntries();
        bytesThatWereWritten();
        whatWasWrittenStays();
        Check.end();
    }

    private static PortableFiles with(int width, int height, int bits, int kind) {
        PortableFiles x = new PortableFiles();
        x.head(width, height, bits, kind);
        if (kind == 3) {
            x.colour(1, 2, 3, 255);
        }
        return x;
    }

    private static void dueFile(String what, PortableFiles x, ChunkFile due) {
        Check.due(what + ": write", x.write(), due.size());
        Check.due(what + ": told(4)", x.told(4), due.size());
        Check.due(what, ChunkFile.hex(ChunkFile.written(x)), ChunkFile.hex(due.values()));
    }

    private static int number(PortableFiles x, int i) {
        return x.byteAt(i) << 24 | x.byteAt(i + 1) << 16 | x.byteAt(i + 2) << 8 | x.byteAt(i + 3);
    }

    private static void beginning() {
        Check.sentence("THE FILE: the bytes 137, 80, 78, 71, 13, 10, 26, 10");
        int[] due = {137, 80, 78, 71, 13, 10, 26, 10};
        for (int kind : new int[] {0, 2, 3, 4, 6}) {
            PortableFiles x = with(1, 1, 8, kind);
            x.write();
            for (int i = 0; i < 8; i++) {
                Check.due("byte " + i, x.byteAt(i), due[i]);
            }
        }
    }

    /** Everything at its greatest, but for the sides, so that 512 calls can tell all bytes. */
    private static PortableFiles full() {
        PortableFiles x = with(12, 1, 8, 3);
        x.colour(4, 5, 6, 128);
        x.put(11, 0, 0, 1);
        x.tag(0, 1);
        x.tag(1, 2);
        x.tag(2, 2835);
        x.extra(ChunkFile.letters("abCd"));
        x.extra(ChunkFile.letters("efGH"));
        x.byteOf(1, 200);
        return x;
    }

    private static void chunksOfFourParts() {
        Check.sentence("then CHUNKS, each: how many bytes of data there are, its letters, its data, its SUM");
        PortableFiles x = full();
        int n = x.write();
        String[] letters = {"IHDR", "gAMA", "sRGB", "pHYs", "PLTE", "tRNS", "IDAT", "abCd", "efGH", "IEND"};
        int[] lengths = {13, 4, 1, 9, 6, 2, 13, 0, 1, 0};
        int place = 8;
        for (int k = 0; k < letters.length; k++) {
            Check.due("bytes of " + letters[k], number(x, place), lengths[k]);
            Check.due("letters of " + letters[k], number(x, place + 4), ChunkFile.letters(letters[k]));
            place += 12 + lengths[k];
        }
        Check.due("nothing behind", n, place);
    }

    /** The sum as the document tells it, bit by bit. */
    private static int sumOf(PortableFiles x, int from, int end) {
        int sum = 0xffffffff;
        for (int i = from; i < end; i++) {
            sum ^= x.byteAt(i);
            for (int bit = 0; bit < 8; bit++) {
                sum = (sum & 1) != 0 ? sum >>> 1 ^ 0xEDB88320 : sum >>> 1;
            }
        }
        return ~sum;
    }

    private static void sums() {
        Check.sentence("the CRC of 32 bits (0xEDB88320, from all ones, all turned over) of letters and data");
        PortableFiles x = full();
        int n = x.write();
        int place = 8;
        boolean signs = false;
        while (place < n) {
            int end = place + 8 + number(x, place);
            Check.due("the sum at " + end, number(x, end), sumOf(x, place + 4, end));
            signs |= number(x, end) < 0;
            place = end + 4;
        }
        Check.due("one has the highest bit", signs ? 1 : 0, 1);
        Check.due("the sum of an empty IEND", number(x, n - 4), 0xAE426082);
    }

    private static void numbersOfFourBytes() {
        Check.sentence("numbers of four bytes have the highest byte first");
        for (int v : new int[] {1, 255, 256, 65535, 65536, 0x01020304, 2147483647}) {
            PortableFiles x = with(1, 1, 8, 0);
            x.tag(0, v);
            x.write();
            int[] due = {v >> 24, v >> 16 & 255, v >> 8 & 255, v & 255};
            for (int i = 0; i < 4; i++) {
                Check.due("byte " + i + " of " + v, x.byteAt(41 + i), due[i]);
            }
        }
    }

    private static void heads() {
        Check.sentence("WRITTEN are: IHDR: width and height as such numbers, BITS, KIND, 0, 0, 0");
        int[][] shapes = {{1, 0}, {2, 0}, {4, 0}, {8, 0}, {1, 3}, {2, 3}, {4, 3}, {8, 3}, {8, 2}, {8, 4}, {8, 6}};
        for (int[] s : shapes) {
            for (int[] sides : new int[][] {{1, 12}, {12, 1}}) {
                PortableFiles x = with(sides[0], sides[1], s[0], s[1]);
                x.write();
                int[] due = {0, 0, 0, sides[0], 0, 0, 0, sides[1], s[0], s[1], 0, 0, 0};
                for (int i = 0; i < due.length; i++) {
                    Check.due("byte " + i + " of IHDR", x.byteAt(16 + i), due[i]);
                }
            }
        }
    }

    private static void tagsThatThereAre() {
        Check.sentence("gAMA with the gamma, sRGB with the intent (a byte), pHYs with that number twice and a byte 1:"
                + " those that there are");
        for (int some = 0; some < 8; some++) {
            PortableFiles x = with(1, 1, 8, 3);
            ChunkFile due = ChunkFile.head(1, 1, 8, 3);
            x.tag(2, (some & 4) != 0 ? 0x7fffffff : -1);
            x.tag(1, (some & 2) != 0 ? 0 : -1);
            x.tag(0, (some & 1) != 0 ? 0x01020304 : -1);
            if ((some & 1) != 0) {
                due.chunk("gAMA", 1, 2, 3, 4);
            }
            if ((some & 2) != 0) {
                due.chunk("sRGB", 0);
            }
            if ((some & 4) != 0) {
                due.chunk("pHYs", 127, 255, 255, 255, 127, 255, 255, 255, 1);
            }
            dueFile("tags " + some, x, due.chunk("PLTE", 1, 2, 3).chunk("IDAT", 0, 0).chunk("IEND"));
        }
        PortableFiles x = with(1, 1, 8, 0);
        x.tag(0, 5);
        x.tag(0, -1);
        x.tag(1, 3);
        x.tag(1, -1);
        x.tag(2, 5);
        x.tag(2, -1);
        dueFile("tags that are none again", x, ChunkFile.head(1, 1, 8, 0).chunk("IDAT", 0, 0).chunk("IEND"));
    }

    private static void palettes() {
        Check.sentence("PLTE for KIND 3: red, green, blue of each entry");
        for (int entries : new int[] {1, 2, 63, 64}) {
            PortableFiles x = new PortableFiles();
            x.head(1, 1, 8, 3);
            int[] data = new int[3 * entries];
            for (int k = 0; k < entries; k++) {
                x.colour(255 - k, k, 3 * k, 255);
                data[3 * k] = 255 - k;
                data[3 * k + 1] = k;
                data[3 * k + 2] = 3 * k;
            }
            dueFile(entries + " entries", x,
                    ChunkFile.head(1, 1, 8, 3).chunk("PLTE", data).chunk("IDAT", 0, 0).chunk("IEND"));
        }
    }

    private static void dueAlphas(int[] alphas, int... told) {
        PortableFiles x = new PortableFiles();
        x.head(1, 1, 4, 3);
        int[] data = new int[3 * alphas.length];
        for (int k = 0; k < alphas.length; k++) {
            x.colour(0, 0, 0, alphas[k]);
        }
        ChunkFile due = ChunkFile.head(1, 1, 4, 3).chunk("PLTE", data);
        if (told.length > 0) {
            due.chunk("tRNS", told);
        }
        dueFile("alphas " + Arrays.toString(alphas), x, due.chunk("IDAT", 0, 0).chunk("IEND"));
    }

    private static void alphas() {
        Check.sentence("tRNS for KIND 3, if some alpha is not 255: alphas as far as the last such one");
        dueAlphas(new int[] {255});
        dueAlphas(new int[] {255, 255, 255});
        dueAlphas(new int[] {254}, 254);
        dueAlphas(new int[] {0}, 0);
        dueAlphas(new int[] {0, 255, 255}, 0);
        dueAlphas(new int[] {255, 254, 255}, 255, 254);
        dueAlphas(new int[] {255, 255, 0}, 255, 255, 0);
        dueAlphas(new int[] {0, 255, 0, 255}, 0, 255, 0);
        PortableFiles x = new PortableFiles();
        x.head(1, 1, 8, 3);
        for (int k = 0; k < 64; k++) {
            x.colour(0, 0, 0, k < 63 ? 255 : 0);
        }
        int[] all = new int[64];
        Arrays.fill(all, 0, 63, 255);
        dueFile("the 64th alone", x, ChunkFile.head(1, 1, 8, 3).chunk("PLTE", new int[192])
                .chunk("tRNS", all).chunk("IDAT", 0, 0).chunk("IEND"));
    }

    private static void rowsAreCut() {
        Check.sentence("IDAT: the rows, cut into chunks of 60 bytes, the last one what is left");
        for (int[] s : new int[][] {{1, 0}, {2, 3}, {4, 0}, {8, 3}, {8, 2}, {8, 4}, {8, 6}}) {
            for (int width = 1; width <= 12; width++) {
                for (int height = 1; height <= 12; height++) {
                    dueCuts(with(width, height, s[0], s[1]), width, height, s[0], s[1]);
                }
            }
        }
        PortableFiles x = with(5, 11, 8, 0);
        x.put(4, 9, 0, 5);
        x.put(0, 10, 0, 6);
        int[] first = new int[60];
        first[59] = 5;
        dueFile("66 bytes", x, ChunkFile.head(5, 11, 8, 0)
                .chunk("IDAT", first).chunk("IDAT", 0, 6, 0, 0, 0, 0).chunk("IEND"));
    }

    private static void dueCuts(PortableFiles x, int width, int height, int bits, int kind) {
        int channels = kind == 2 ? 3 : kind == 4 ? 2 : kind == 6 ? 4 : 1;
        int left = height * (1 + (width * channels * bits + 7) / 8);
        String picture = width + " by " + height + ", " + bits + " bits, kind " + kind;
        int n = x.write();
        int place = kind == 3 ? 48 : 33;
        while (left > 0) {
            Check.due(picture + ": bytes of IDAT", number(x, place), Math.min(60, left));
            Check.due(picture + ": IDAT", number(x, place + 4), ChunkFile.letters("IDAT"));
            place += 12 + Math.min(60, left);
            left -= Math.min(60, left);
        }
        Check.due(picture + ": IEND", number(x, place + 4), ChunkFile.letters("IEND"));
        Check.due(picture + ": bytes", n, place + 12);
    }

    private static void rowsBeginWithNought() {
        Check.sentence("for each row a byte 0");
        PortableFiles x = with(1, 12, 8, 0);
        int[] rows = new int[24];
        for (int y = 0; y < 12; y++) {
            x.put(0, y, 0, 255 - y);
            rows[2 * y + 1] = 255 - y;
        }
        dueFile("12 rows", x, ChunkFile.head(1, 12, 8, 0).chunk("IDAT", rows).chunk("IEND"));
    }

    private static void samplesByColumnsAndChannels() {
        Check.sentence("then samples by columns and channels, BITS each, the highest first");
        for (int[] k : new int[][] {{2, 3}, {4, 2}, {6, 4}}) {
            PortableFiles x = with(2, 1, 8, k[0]);
            int[] row = new int[1 + 2 * k[1]];
            for (int i = 0; i < 2; i++) {
                for (int c = 0; c < k[1]; c++) {
                    x.put(i, 0, c, 10 * i + c + 1);
                    row[1 + i * k[1] + c] = 10 * i + c + 1;
                }
            }
            dueFile("kind " + k[0], x, ChunkFile.head(2, 1, 8, k[0]).chunk("IDAT", row).chunk("IEND"));
        }
        PortableFiles x = with(8, 1, 1, 0);
        x.put(0, 0, 0, 1);
        x.put(6, 0, 0, 1);
        dueFile("1 bit", x, ChunkFile.head(8, 1, 1, 0).chunk("IDAT", 0, 0x82).chunk("IEND"));
        x = with(4, 2, 2, 0);
        x.put(0, 0, 0, 3);
        x.put(3, 0, 0, 1);
        x.put(1, 1, 0, 2);
        dueFile("2 bits", x, ChunkFile.head(4, 2, 2, 0).chunk("IDAT", 0, 0xc1, 0, 0x20).chunk("IEND"));
        x = with(2, 1, 4, 0);
        x.put(0, 0, 0, 1);
        x.put(1, 0, 0, 15);
        dueFile("4 bits", x, ChunkFile.head(2, 1, 4, 0).chunk("IDAT", 0, 0x1f).chunk("IEND"));
    }

    private static void lastBytesAreFilled() {
        Check.sentence("the last byte filled with 0");
        for (int bits : new int[] {1, 2, 4, 8}) {
            for (int width = 1; width <= 12; width++) {
                PortableFiles x = with(width, 2, bits, 0);
                int used = width * bits;
                int[] rows = new int[2 + 2 * ((used + 7) / 8)];
                for (int y = 0; y < 2; y++) {
                    for (int i = 0; i < width; i++) {
                        x.put(i, y, 0, (1 << bits) - 1);
                    }
                    for (int bit = 0; bit < used; bit++) {
                        rows[y * rows.length / 2 + 1 + bit / 8] |= 128 >> bit % 8;
                    }
                }
                dueFile(width + " of " + bits + " bits", x,
                        ChunkFile.head(width, 2, bits, 0).chunk("IDAT", rows).chunk("IEND"));
            }
        }
    }

    private static void extrasInOrder() {
        Check.sentence("EXTRAS in order");
        PortableFiles x = with(1, 1, 8, 0);
        ChunkFile due = ChunkFile.head(1, 1, 8, 0).chunk("IDAT", 0, 0);
        String[] letters = {"zzZz", "aaAA", "zzZz", "mmMm", "aaAa", "bbBB"};
        int[] lengths = {0, 40, 1, 2, 39, 0};
        for (int k = 0; k < 6; k++) {
            x.extra(ChunkFile.letters(letters[k]));
            int[] data = new int[lengths[k]];
            for (int i = 0; i < lengths[k]; i++) {
                data[i] = 255 - 40 * k - i % 40;
                x.byteOf(k, data[i]);
            }
            due.chunk(letters[k], data);
        }
        dueFile("six", x, due.chunk("IEND"));
    }

    private static void end() {
        Check.sentence("IEND, empty");
        int[] due = {0, 0, 0, 0, 'I', 'E', 'N', 'D', 0xAE, 0x42, 0x60, 0x82};
        for (PortableFiles x : new PortableFiles[] {with(1, 1, 1, 0), with(12, 12, 8, 6), full()}) {
            int n = x.write();
            for (int i = 0; i < 12; i++) {
                Check.due("byte " + i + " of the last 12", x.byteAt(n - 12 + i), due[i]);
            }
        }
    }

    private static PortableFiles greatest() {
        PortableFiles x = with(12, 12, 8, 6);
        x.tag(0, 1);
        x.tag(1, 3);
        x.tag(2, 1);
        for (int k = 0; k < 6; k++) {
            x.extra(ChunkFile.letters("abCd"));
            for (int i = 0; i < 40; i++) {
                x.byteOf(k, 7);
            }
        }
        x.put(11, 11, 3, 99);
        return x;
    }

    private static void countsBytes() {
        Check.sentence("The PICTURE is WRITTEN: how many bytes.");
        PortableFiles least = with(1, 1, 1, 0);
        Check.due("none before", least.told(4), 0);
        Check.due("the least", least.write(), 59);
        Check.due("again", least.write(), 59);
        Check.due("told(4)", least.told(4), 59);
        PortableFiles x = greatest();
        Check.due("the greatest", x.write(), 1115);
        Check.due("its last byte", x.byteAt(1114), 0x82);
        Check.dueThrow("none behind it", Check.INDEX, () -> x.byteAt(1115));
        Check.due("all of it can be passed", x.pass(0, 2000), 1115);
        Check.due("and read", x.read(), 1 + 3 + 10 + 6 + 1);
        Check.due("the last sample", x.at(11, 11, 3), 99);
        Check.due("the last byte of the last extra", x.unknown(5, 39), 7);
        PortableFiles y = new PortableFiles();
        y.head(12, 12, 8, 3);
        for (int k = 0; k < 64; k++) {
            y.colour(k, k, k, k);
        }
        Check.due("the greatest palette", y.write(), 8 + 25 + 204 + 76 + 156 + 36 + 12);
    }

    private static void needsAPictureWithEntries() {
        Check.sentence("IllegalState: there is none, or KIND 3 has no entry.");
        PortableFiles x = new PortableFiles();
        Check.dueThrow("no picture", Check.STATE, () -> x.write());
        for (int bits : new int[] {1, 2, 4, 8}) {
            x.head(1, 1, bits, 3);
            Check.dueThrow("no entry", Check.STATE, () -> x.write());
            x.tag(0, 1);
            x.extra(ChunkFile.letters("abCd"));
            Check.dueThrow("still none", Check.STATE, () -> x.write());
        }
        Check.due("nothing was written", x.told(4), 0);
        x.colour(1, 2, 3, 255);
        Check.due("one entry", x.write(), 8 + 25 + 16 + 15 + 14 + 12 + 12);
        for (int kind : new int[] {0, 2, 4, 6}) {
            x.head(1, 1, 8, kind);
            Check.dueTaken("kind " + kind + " needs none", true, Check.STATE, () -> x.write());
        }
    }

    private static void bytesThatWereWritten() {
        Check.sentence("A byte that was WRITTEN.");
        PortableFiles x = new PortableFiles();
        Check.dueThrow("nothing was", Check.INDEX, () -> x.byteAt(0));
        x.head(12, 12, 8, 6);
        Check.dueThrow("still nothing", Check.INDEX, () -> x.byteAt(0));
        int longer = x.write();
        Check.due("the first", x.byteAt(0), 137);
        Check.due("the last", x.byteAt(longer - 1), 0x82);
        Check.dueThrow("below", Check.INDEX, () -> x.byteAt(-1));
        Check.dueThrow("beyond", Check.INDEX, () -> x.byteAt(longer));
        x.head(1, 1, 8, 0);
        int shorter = x.write();
        Check.due("the last of a shorter one", x.byteAt(shorter - 1), 0x82);
        Check.dueThrow("behind it, where the longer one had a byte", Check.INDEX, () -> x.byteAt(shorter));
        Check.dueThrow("the longer one's last", Check.INDEX, () -> x.byteAt(longer - 1));
        for (int far : Check.FAR) {
            Check.dueThrow("far", Check.INDEX, () -> x.byteAt(far));
        }
    }

    private static void whatWasWrittenStays() {
        Check.sentence("bytes that were WRITTEN (4)");
        PortableFiles x = with(1, 1, 8, 0);
        x.put(0, 0, 0, 77);
        int n = x.write();
        x.put(0, 0, 0, 78);
        x.head(1, 1, 8, 3);
        Check.dueThrow("no entry", Check.STATE, () -> x.write());
        Check.due("told(4)", x.told(4), n);
        Check.due("the sample", x.byteAt(42), 77);
        x.pass(0, n);
        x.alter(42, 1, true);
        x.drop();
        Check.due("what was fed is another thing", x.byteAt(42), 77);
        x.head(1, 1, 8, 0);
        x.put(0, 0, 0, 78);
        Check.due("written anew", x.write(), n);
        Check.due("the sample", x.byteAt(42), 78);
    }
}
