/** Promises 15 to 20: at, found, entry, unknown, take and told. */
public final class FoundTest {
    private static final int ABCD = ChunkFile.letters("abCD");
    private static final int EFGH = ChunkFile.letters("efGh");

    public static void main(String[] args) {
        samplesAreRead();
        atRefuses();
        foundTells();
        entriesAreRead();
        entryRefuses();
        extrasAreRead();
        unknownRefuses();
        takeMakesWhatWasReadThePicture();
        takeLeavesWhatWasRead();
        toldTells();
        Check.end();
    }

    private static PortableFiles read(ChunkFile file) {
        PortableFiles x = new PortableFiles();
        file.feedTo(x);
        x.read();
        Check.due("told(0)", x.told(0), 0);
        return x;
    }

    /** 3 by 2 with a palette of three, tags, a chunk left out and two extras. */
    private static ChunkFile full() {
        return ChunkFile.head(3, 2, 2, 3)
                .chunk("gAMA", 0, 0, 177, 143)
                .chunk("pHYs", 0, 0, 11, 19, 0, 0, 11, 19, 1)
                .chunkWithWrongSum("sRGB", 1)
                .chunk("PLTE", 1, 2, 3, 4, 5, 6, 7, 8, 9)
                .chunk("tRNS", 10, 20)
                .chunk("abCD", 200, 201)
                .chunk("IDAT", 0, 0x18, 0, 0x84)
                .chunk("efGh")
                .chunk("IEND");
    }

    private static void samplesAreRead() {
        PortableFiles x = read(full());
        int[][] due = {{0, 1, 2}, {2, 0, 1}};
        for (int y = 0; y < 2; y++) {
            for (int i = 0; i < 3; i++) {
                Check.due("at " + i + " " + y, x.at(i, y, 0), due[y][i]);
            }
        }
        x = read(ChunkFile.head(2, 2, 8, 6)
                .chunk("IDAT", 0, 1, 2, 3, 4, 5, 6, 7).chunk("IDAT", 8, 0, 9, 10, 11, 12, 13, 14, 15, 16)
                .chunk("IEND"));
        for (int k = 0; k < 16; k++) {
            Check.due("at " + k, x.at(k / 4 % 2, k / 8, k % 4), k + 1);
        }
        x = read(ChunkFile.head(9, 1, 1, 0).chunk("IDAT", 0, 0xa5, 0x80).chunk("IEND"));
        for (int i = 0; i < 9; i++) {
            Check.due("at " + i, x.at(i, 0, 0), 0x14b >> 8 - i & 1);
        }
    }

    private static void atRefuses() {
        PortableFiles x = read(ChunkFile.head(2, 1, 8, 4).chunk("IDAT", 0, 1, 2, 3, 4).chunk("IEND"));
        int[][] nowhere = {{2, 0, 0}, {-1, 0, 0}, {0, 1, 0}, {0, -1, 0}, {0, 0, 2}, {0, 0, -1},
            {Integer.MAX_VALUE, 0, 0}, {0, Integer.MIN_VALUE, 0}, {0, 0, Integer.MAX_VALUE}};
        for (int[] n : nowhere) {
            Check.dueThrow("at", Check.INDEX, () -> x.at(n[0], n[1], n[2]));
        }
        Check.due("the last", x.at(1, 0, 1), 4);
    }

    private static void foundTells() {
        PortableFiles x = read(full());
        int[] due = {3, 2, 2, 3, 3, 45455, -1, 2835, 2, 1, -1};
        for (int what = 0; what < due.length; what++) {
            Check.due("found " + what, x.found(what), due[what]);
        }
        Check.due("found -1", x.found(-1), -1);
        Check.due("found far", x.found(Integer.MAX_VALUE), -1);
        x.drop();
        x.head(1, 1, 8, 0);
        x.write();
        x.pass(0, 100);
        x.read();
        int[] then = {1, 1, 8, 0, 0, -1, -1, -1, 0, 0};
        for (int what = 0; what < then.length; what++) {
            Check.due("then found " + what, x.found(what), then[what]);
        }
    }

    private static void entriesAreRead() {
        PortableFiles x = read(full());
        int[][] due = {{1, 2, 3, 10}, {4, 5, 6, 20}, {7, 8, 9, 255}};
        for (int k = 0; k < 3; k++) {
            for (int what = 0; what < 4; what++) {
                Check.due("entry " + k + " " + what, x.entry(k, what), due[k][what]);
            }
        }
    }

    private static void entryRefuses() {
        PortableFiles x = read(full());
        Check.dueThrow("beyond", Check.INDEX, () -> x.entry(3, 4));
        Check.dueThrow("below", Check.INDEX, () -> x.entry(-1, 0));
        Check.dueThrow("far", Check.INDEX, () -> x.entry(Integer.MAX_VALUE, 0));
        Check.dueThrow("part", Check.ARGUMENT, () -> x.entry(0, 4));
        Check.dueThrow("part", Check.ARGUMENT, () -> x.entry(2, -1));
        PortableFiles y = read(ChunkFile.head(1, 1, 8, 2).chunk("PLTE", 1, 2, 3)
                .chunk("IDAT", 0, 1, 2, 3).chunk("IEND"));
        Check.dueThrow("a palette that was passed over", Check.INDEX, () -> y.entry(0, 0));
    }

    private static void extrasAreRead() {
        PortableFiles x = read(full());
        Check.due("letters", x.unknown(0, -1), ABCD);
        Check.due("byte", x.unknown(0, 0), 200);
        Check.due("byte", x.unknown(0, 1), 201);
        Check.due("letters", x.unknown(1, -1), EFGH);
    }

    private static void unknownRefuses() {
        PortableFiles x = read(full());
        Check.dueThrow("no third", Check.INDEX, () -> x.unknown(2, -1));
        Check.dueThrow("below", Check.INDEX, () -> x.unknown(-1, -1));
        Check.dueThrow("no byte", Check.INDEX, () -> x.unknown(0, 2));
        Check.dueThrow("no byte", Check.INDEX, () -> x.unknown(0, -2));
        Check.dueThrow("no byte", Check.INDEX, () -> x.unknown(1, 0));
        Check.dueThrow("far", Check.INDEX, () -> x.unknown(0, Integer.MAX_VALUE));
        Check.dueThrow("far", Check.INDEX, () -> x.unknown(Integer.MIN_VALUE, 0));
    }

    private static void takeMakesWhatWasReadThePicture() {
        PortableFiles x = read(full());
        x.take();
        Check.due("kind", x.told(1), 3);
        Check.due("bits", x.told(2), 2);
        Check.due("extras", x.told(3), 2);
        Check.due("entries", x.told(6), 3);
        x.write();
        String due = ChunkFile.hex(ChunkFile.head(3, 2, 2, 3)
                .chunk("gAMA", 0, 0, 177, 143)
                .chunk("pHYs", 0, 0, 11, 19, 0, 0, 11, 19, 1)
                .chunk("PLTE", 1, 2, 3, 4, 5, 6, 7, 8, 9)
                .chunk("tRNS", 10, 20)
                .chunk("IDAT", 0, 0x18, 0, 0x84)
                .chunk("abCD", 200, 201)
                .chunk("efGh")
                .chunk("IEND").values());
        Check.due("written", ChunkFile.hex(ChunkFile.written(x)), due);
    }

    private static void takeLeavesWhatWasRead() {
        PortableFiles x = read(full());
        x.take();
        x.put(0, 0, 0, 2);
        x.tag(0, -1);
        x.colour(9, 9, 9, 9);
        x.byteOf(0, 5);
        Check.due("a sample", x.at(0, 0, 0), 0);
        Check.due("a tag", x.found(5), 45455);
        Check.due("entries", x.found(4), 3);
        Check.due("extras", x.found(8), 2);
        Check.dueThrow("no byte of an extra", Check.INDEX, () -> x.unknown(1, 0));
        Check.due("extras of the picture", x.told(3), 1);
        x.take();
        Check.due("extras of the picture", x.told(3), 2);
        Check.due("a sample of the picture", x.put(0, 0, 0, 1), 0);
        x.drop();
        x.read();
        Check.due("the picture stays when a reading is broken", x.told(1), 3);
    }

    private static void toldTells() {
        PortableFiles x = new PortableFiles();
        x.head(1, 1, 4, 3);
        x.colour(1, 1, 1, 1);
        x.extra(EFGH);
        int n = x.write();
        x.feed(137);
        int[] due = {0, 3, 4, 1, n, 1, 1, -1};
        for (int what = 0; what < due.length; what++) {
            Check.due("told " + what, x.told(what), due[what]);
        }
        Check.due("told -1", x.told(-1), -1);
        Check.due("told far", x.told(Integer.MIN_VALUE), -1);
        x.read();
        Check.due("the fault", x.told(0), 1);
        x.drop();
        x.pass(0, n);
        Check.due("of the latest reading", x.told(0), 1);
        x.read();
        Check.due("none", x.told(0), 0);
    }
}
