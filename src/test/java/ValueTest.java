import java.util.Arrays;

/** Promise 14: the FAULTS VALUE and DATA, each rule at its edges. */
public final class ValueTest {
    public static void main(String[] args) {
        heads();
        headsOfOtherLengths();
        gammas();
        intents();
        samplesAMetre();
        palettes();
        alphas();
        alphasOfOtherKinds();
        longExtras();
        theSeventhExtra();
        theEnd();
        howManyBytesOfRows();
        firstBytesOfRows();
        lastBytesOfRows();
        samplesBeyondThePalette();
        dataAreToldAtTheEnd();
        palettesThatArePassedOver();
        Check.end();
    }

    private static void dueHead(boolean right, int... data) {
        int fault = right ? Reads.CUT : Reads.VALUE;
        Reads.dueFault("IHDR " + Arrays.toString(data), ChunkFile.begin().chunk("IHDR", data), fault, right ? 33 : 8);
    }

    private static void heads() {
        Check.sentence("7 VALUE: in IHDR 13 bytes of numbers that may be (with 0, 0, 0)");
        for (int v = 0; v < 256; v++) {
            boolean side = v >= 1 && v <= 12;
            dueHead(side, 0, 0, 0, v, 0, 0, 0, 1, 8, 0, 0, 0, 0);
            dueHead(side, 0, 0, 0, 1, 0, 0, 0, v, 8, 0, 0, 0, 0);
            boolean few = v == 1 || v == 2 || v == 4 || v == 8;
            for (int kind = 0; kind < 8; kind++) {
                boolean known = kind == 0 || kind == 3 ? few : (kind == 2 || kind == 4 || kind == 6) && v == 8;
                dueHead(known, 0, 0, 0, 1, 0, 0, 0, 1, v, kind, 0, 0, 0);
            }
            boolean kind = v == 0 || v == 2 || v == 3 || v == 4 || v == 6;
            dueHead(kind, 0, 0, 0, 1, 0, 0, 0, 1, 8, v, 0, 0, 0);
        }
        for (int i : new int[] {0, 1, 2, 4, 5, 6, 10, 11, 12}) {
            for (int v : new int[] {1, 2, 128, 255}) {
                int[] data = Reads.HEAD.clone();
                data[i] = v;
                dueHead(false, data);
            }
        }
    }

    private static void headsOfOtherLengths() {
        Check.sentence("in IHDR 13 bytes");
        for (int n : new int[] {0, 1, 12, 14, 15, 255}) {
            dueHead(false, Arrays.copyOf(Reads.HEAD, n));
        }
        dueHead(true, Arrays.copyOf(Reads.HEAD, 13));
    }

    private static void dueTag(String letters, int what, int value, int... data) {
        PortableFiles x = Reads.dueChunks(letters + " " + Arrays.toString(data),
                Reads.ended(Reads.head(8, 0).chunk(letters, data)), 4);
        Check.due("found", x.found(5 + what), value);
    }

    private static void dueWrongTag(String letters, int... data) {
        Reads.dueFault(letters + " " + Arrays.toString(data),
                Reads.ended(Reads.head(8, 0).chunk(letters, data)), Reads.VALUE, 33);
    }

    private static void gammas() {
        Check.sentence("gAMA, sRGB, pHYs of their lengths and numbers that may be");
        dueTag("gAMA", 0, 1, 0, 0, 0, 1);
        dueTag("gAMA", 0, 2147483647, 127, 255, 255, 255);
        dueTag("gAMA", 0, 1 << 24, 1, 0, 0, 0);
        dueWrongTag("gAMA", 0, 0, 0, 0);
        dueWrongTag("gAMA", 128, 0, 0, 0);
        dueWrongTag("gAMA", 128, 0, 0, 1);
        dueWrongTag("gAMA", 255, 255, 255, 255);
        dueWrongTag("gAMA");
        dueWrongTag("gAMA", 0, 0, 1);
        dueWrongTag("gAMA", 0, 0, 0, 1, 0);
        dueWrongTag("gAMA", new int[255]);
    }

    private static void intents() {
        Check.sentence("gAMA, sRGB, pHYs of their lengths and numbers that may be");
        for (int v = 0; v < 256; v++) {
            if (v < 4) {
                dueTag("sRGB", 1, v, v);
            } else {
                dueWrongTag("sRGB", v);
            }
        }
        dueWrongTag("sRGB");
        dueWrongTag("sRGB", 0, 0);
        dueWrongTag("sRGB", new int[255]);
    }

    private static void samplesAMetre() {
        Check.sentence("(both of pHYs alike, then 1)");
        dueTag("pHYs", 2, 1, 0, 0, 0, 1, 0, 0, 0, 1, 1);
        dueTag("pHYs", 2, 2147483647, 127, 255, 255, 255, 127, 255, 255, 255, 1);
        for (int i = 0; i < 4; i++) {
            int[] across = {1, 1, 1, 1, 1, 1, 1, 1, 1};
            across[i] = 2;
            dueWrongTag("pHYs", across);
            int[] down = {1, 1, 1, 1, 1, 1, 1, 1, 1};
            down[4 + i] = 2;
            dueWrongTag("pHYs", down);
        }
        for (int last : new int[] {0, 2, 128, 255}) {
            dueWrongTag("pHYs", 0, 0, 0, 1, 0, 0, 0, 1, last);
        }
        dueWrongTag("pHYs", 0, 0, 0, 0, 0, 0, 0, 0, 1);
        dueWrongTag("pHYs", 128, 0, 0, 0, 128, 0, 0, 0, 1);
        dueWrongTag("pHYs", 255, 255, 255, 255, 255, 255, 255, 255, 1);
        dueWrongTag("pHYs");
        dueWrongTag("pHYs", 0, 0, 0, 1, 0, 0, 0, 1);
        dueWrongTag("pHYs", 0, 0, 0, 1, 0, 0, 0, 1, 1, 0);
        dueWrongTag("pHYs", new int[255]);
    }

    private static void palettes() {
        Check.sentence("PLTE of a number of bytes by 3, 1 to 2 to the BITS entries (64 at most)");
        for (int[] m : new int[][] {{1, 2}, {2, 4}, {4, 16}, {8, 64}}) {
            for (int n = 0; n <= 3 * m[1] + 6 && n <= 255; n++) {
                boolean right = n > 0 && n % 3 == 0 && n <= 3 * m[1];
                ChunkFile file = Reads.head(m[0], 3).chunk("PLTE", new int[n]);
                if (right) {
                    PortableFiles x = Reads.dueChunks(m[0] + " bits, " + n + " bytes", Reads.ended(file), 4);
                    Check.due("entries", x.found(4), n / 3);
                } else {
                    Reads.dueFault(m[0] + " bits, " + n + " bytes", Reads.ended(file), Reads.VALUE, 33);
                }
            }
        }
        Reads.dueFault("255 bytes", Reads.ended(Reads.head(8, 3).chunk("PLTE", new int[255])), Reads.VALUE, 33);
        int[] data = new int[192];
        for (int i = 0; i < 192; i++) {
            data[i] = i + 60;
        }
        PortableFiles x = Reads.dueChunks("64", Reads.ended(Reads.head(8, 3).chunk("PLTE", data)), 4);
        Check.due("the first red", x.entry(0, 0), 60);
        Check.due("the last blue", x.entry(63, 2), 251);
        Check.due("its alpha", x.entry(63, 3), 255);
    }

    private static void alphas() {
        Check.sentence("tRNS (KIND 3 alone) not empty, with not more than PLTE");
        for (int entries : new int[] {1, 2, 3, 63, 64}) {
            for (int n : new int[] {0, 1, entries - 1, entries, entries + 1, 255}) {
                int[] data = new int[n];
                Arrays.fill(data, 7);
                ChunkFile file = Reads.head(8, 3).chunk("PLTE", new int[3 * entries]).chunk("tRNS", data);
                if (n >= 1 && n <= entries) {
                    PortableFiles x = Reads.dueChunks(n + " of " + entries, Reads.ended(file), 5);
                    Check.due("the last told", x.entry(n - 1, 3), 7);
                    Check.due("the last", x.entry(entries - 1, 3), n == entries ? 7 : 255);
                } else {
                    Reads.dueFault(n + " of " + entries, Reads.ended(file), Reads.VALUE, 45 + 3 * entries);
                }
            }
        }
        Reads.dueFault("as many as may be, but PLTE has fewer", Reads.ended(Reads.head(1, 3)
                .chunk("PLTE", 1, 2, 3).chunk("tRNS", 1, 2)), Reads.VALUE, 48);
    }

    private static void alphasOfOtherKinds() {
        Check.sentence("tRNS (KIND 3 alone)");
        for (int kind : new int[] {2, 6}) {
            Reads.dueFault("kind " + kind, Reads.head(8, kind).chunk("PLTE", 1, 2, 3).chunk("tRNS", 1), Reads.VALUE, 48);
            Reads.dueFault("kind " + kind, Reads.head(8, kind).chunk("PLTE", 1, 2, 3).chunk("tRNS"), Reads.VALUE, 48);
        }
    }

    private static void longExtras() {
        Check.sentence("an EXTRA of more than 40 bytes");
        for (int n : new int[] {0, 1, 39, 40}) {
            int[] data = new int[n];
            Arrays.fill(data, 200);
            PortableFiles x = Reads.dueChunks(n + " bytes", Reads.ended(Reads.head(8, 0).chunk("abCd", data)), 4);
            Check.dueThrow("none behind the last", Check.INDEX, () -> x.unknown(0, n));
            if (n > 0) {
                Check.due("the last", x.unknown(0, n - 1), 200);
            }
        }
        for (int n : new int[] {41, 42, 255}) {
            Reads.dueFault(n + " bytes", Reads.ended(Reads.head(8, 0).chunk("abCd", new int[n])), Reads.VALUE, 33);
            Reads.dueFault(n + " bytes behind IDAT",
                    Reads.head(8, 0).chunk("IDAT", 0, 0).chunk("abCD", new int[n]).chunk("IEND"), Reads.VALUE, 47);
        }
    }

    private static ChunkFile sixExtras() {
        ChunkFile six = Reads.head(8, 0);
        for (int k = 0; k < 6; k++) {
            six.chunk("abCd", k);
        }
        return six;
    }

    private static void theSeventhExtra() {
        Check.sentence("or the seventh");
        PortableFiles x = Reads.dueChunks("six", Reads.ended(sixExtras()), 9);
        Check.due("extras", x.found(8), 6);
        Check.due("the sixth", x.unknown(5, 0), 5);
        Reads.dueFault("seven", Reads.ended(sixExtras().chunk("abCd")), Reads.VALUE, 33 + 78);
        Reads.dueFault("behind the rows", sixExtras().chunk("IDAT", 0, 0).chunk("abCd").chunk("IEND"),
                Reads.VALUE, 33 + 78 + 14);
        Reads.dueChunks("left out", Reads.ended(sixExtras().chunkWithWrongSum("abCd")), 9);
        Reads.dueChunks("a tag is none", Reads.ended(sixExtras().chunk("gAMA", 0, 0, 0, 1)), 10);
    }

    private static void theEnd() {
        Check.sentence("IEND empty");
        for (int n : new int[] {1, 2, 255}) {
            Reads.dueFault(n + " bytes", Reads.head(8, 0).chunk("IDAT", 0, 0).chunk("IEND", new int[n]), Reads.VALUE, 47);
        }
        Reads.dueChunks("none", Reads.head(8, 0).chunk("IDAT", 0, 0).chunk("IEND"), 3);
    }

    private static void dueRows(boolean right, int width, int height, int bits, int kind, int many) {
        ChunkFile file = ChunkFile.head(width, height, bits, kind);
        for (int left = many; left > 0; left -= 200) {
            file.chunk("IDAT", new int[Math.min(200, left)]);
        }
        int place = file.size();
        String what = many + " bytes for " + width + " by " + height + ", " + bits + " bits, kind " + kind;
        if (right) {
            Reads.dueChunks(what, file.chunk("IEND"), 2 + (many + 199) / 200);
        } else {
            Reads.dueFault(what, file.chunk("IEND"), Reads.DATA, place);
        }
    }

    private static void howManyBytesOfRows() {
        Check.sentence("8 DATA, at IEND's place: IDATs have together not as many bytes as the rows");
        int[][] pictures = {
            {1, 1, 1, 0, 2}, {8, 1, 1, 0, 2}, {9, 1, 1, 0, 3}, {12, 12, 1, 0, 36}, {4, 3, 2, 0, 6}, {5, 3, 2, 0, 9},
            {3, 2, 4, 0, 6}, {12, 12, 8, 0, 156}, {12, 12, 8, 2, 444}, {12, 12, 8, 4, 300}, {12, 12, 8, 6, 588}
        };
        for (int[] p : pictures) {
            for (int off : new int[] {-2, -1, 0, 1, 2, 256}) {
                if (p[4] + off > 0) {
                    dueRows(off == 0, p[0], p[1], p[2], p[3], p[4] + off);
                }
            }
        }
        dueRows(false, 12, 12, 8, 6, 1700);
        Reads.dueFault("none", Reads.head(8, 0).chunk("IDAT").chunk("IEND"), Reads.DATA, 45);
        Reads.dueChunks("in pieces of one", Reads.head(8, 2).chunk("IDAT", 0).chunk("IDAT", 1).chunk("IDAT", 2)
                .chunk("IDAT", 3).chunk("IEND"), 6);
    }

    private static void firstBytesOfRows() {
        Check.sentence("a row begins with another byte than 0");
        for (int y = 0; y < 12; y++) {
            for (int b : new int[] {1, 2, 4, 128, 255}) {
                int[] rows = new int[24];
                rows[2 * y] = b;
                Reads.dueFault("row " + y + " with " + b, ChunkFile.head(1, 12, 8, 0).chunk("IDAT", rows).chunk("IEND"),
                        Reads.DATA, 69);
            }
        }
    }

    private static void lastBytesOfRows() {
        Check.sentence("a last byte is not filled with 0");
        for (int bits : new int[] {1, 2, 4, 8}) {
            for (int width = 1; width <= 12; width++) {
                int used = width * bits;
                int bytes = (used + 7) / 8;
                for (int bit = 0; bit < 8 * bytes; bit++) {
                    int[] rows = new int[2 + 2 * bytes];
                    rows[1 + bytes + 1 + bit / 8] = 128 >> bit % 8;
                    ChunkFile file = ChunkFile.head(width, 2, bits, 0).chunk("IDAT", rows);
                    int place = file.size();
                    String what = width + " of " + bits + " bits, bit " + bit;
                    if (bit < used) {
                        PortableFiles x = Reads.dueChunks(what, file.chunk("IEND"), 3);
                        Check.due(what, x.at(bit / bits, 1, 0), 1 << bits - 1 - bit % bits);
                    } else {
                        Reads.dueFault(what, file.chunk("IEND"), Reads.DATA, place);
                    }
                }
            }
        }
    }

    private static void samplesBeyondThePalette() {
        Check.sentence("a sample of KIND 3 is beyond the palette");
        for (int[] m : new int[][] {{1, 1}, {1, 2}, {2, 3}, {2, 4}, {4, 5}, {4, 16}, {8, 1}, {8, 64}}) {
            for (int v = 0; v < 1 << m[0]; v++) {
                int[] row = {0, v << 8 - m[0]};
                ChunkFile file = Reads.head(m[0], 3).chunk("PLTE", new int[3 * m[1]]).chunk("IDAT", row);
                int place = file.size();
                String what = m[0] + " bits, sample " + v + " of " + m[1];
                if (v < m[1]) {
                    Check.due(what, Reads.dueChunks(what, file.chunk("IEND"), 4).at(0, 0, 0), v);
                } else {
                    Reads.dueFault(what, file.chunk("IEND"), Reads.DATA, place);
                }
            }
        }
        Reads.dueFault("the last sample of the last row", ChunkFile.head(2, 2, 4, 3)
                .chunk("PLTE", 1, 2, 3, 4, 5, 6).chunk("IDAT", 0, 0x11, 0, 0x12).chunk("IEND"), Reads.DATA, 67);
        Reads.dueChunks("bits that fill the last byte are no sample", ChunkFile.head(3, 1, 2, 3)
                .chunk("PLTE", 1, 2, 3).chunk("IDAT", 0, 0).chunk("IEND"), 4);
    }

    private static void dataAreToldAtTheEnd() {
        Check.sentence("8 DATA, at IEND's place");
        Reads.dueFault("an extra between", Reads.head(8, 0).chunk("IDAT", 1, 0).chunk("abCd", 1).chunk("IEND"),
                Reads.DATA, 60);
        Reads.dueFault("a left out one between",
                Reads.head(8, 0).chunk("IDAT", 1, 0).chunkWithWrongSum("abCd", 1).chunk("IEND"), Reads.DATA, 60);
        Reads.dueFault("no end", Reads.head(8, 0).chunk("IDAT", 1, 0), Reads.CUT, 47);
        Reads.dueFault("an end that is not empty", Reads.head(8, 0).chunk("IDAT", 1, 0).chunk("IEND", 1), Reads.VALUE, 47);
    }

    private static void palettesThatArePassedOver() {
        Check.sentence("PLTE for KINDS 2, 6 is passed over when it is right.");
        for (int kind : new int[] {2, 6}) {
            int[] row = new int[kind == 2 ? 4 : 5];
            for (int entries : new int[] {1, 2, 64}) {
                PortableFiles x = Reads.dueChunks("kind " + kind + ", " + entries, Reads.head(8, kind)
                        .chunk("PLTE", new int[3 * entries]).chunk("IDAT", row).chunk("IEND"), 4);
                Check.due("entries", x.found(4), 0);
                Check.dueThrow("no entry", Check.INDEX, () -> x.entry(0, 0));
                x.take();
                Check.due("entries of the picture", x.told(6), 0);
                Check.due("it is not written", x.write(), 8 + 25 + 12 + row.length + 12);
            }
            for (int n : new int[] {0, 1, 2, 4, 191, 193, 195, 255}) {
                Reads.dueFault("kind " + kind + ", " + n + " bytes", Reads.head(8, kind)
                        .chunk("PLTE", new int[n]).chunk("IDAT", row).chunk("IEND"), Reads.VALUE, 33);
            }
        }
    }
}
