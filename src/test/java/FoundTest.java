/** Promises 15 to 20: at, found, entry, unknown, take and told. */
public final class FoundTest {
    private static final int ABCD = ChunkFile.letters("abCD");
    private static final int EFGH = ChunkFile.letters("efGh");

    public static void main(String[] args) {
        samplesAreRead();
        atNeedsItsSample();
        foundTells();
        foundTellsNone();
        entriesAreRead();
        entryNeedsItsEntry();
        entryNeedsItsPart();
        extrasAreRead();
        unknownNeedsItsByte();
        nothingWasRead();
        takeMakesWhatWasReadThePicture();
        takeLeavesNothingOfThePictureBefore();
        takeLeavesWhatWasRead();
        toldTells();
        toldTellsTheLatestFault();
        toldTellsNoneWithoutAPicture();
        toldTellsNone();
        Check.end();
    }

    private static PortableFiles read(ChunkFile file) {
        PortableFiles x = new PortableFiles();
        file.feedTo(x);
        x.read();
        Check.due("told(0)", x.told(0), 0);
        return x;
    }

    /** 3 by 2 with a palette of three, tags, a chunk left out and two extras. */
    private static ChunkFile full() {
        return ChunkFile.head(3, 2, 2, 3)
                .chunk("gAMA", 0, 0, 177, 143)
                .chunk("pHYs", 0, 0, 11, 19, 0, 0, 11, 19, 1)
                .chunkWithWrongSum("sRGB", 1)
                .chunk("PLTE", 1, 2, 3, 4, 5, 6, 7, 8, 9)
                .chunk("tRNS", 10, 20)
                .chunk("abCD", 200, 201)
                .chunk("IDAT", 0, 0x18, 0, 0x84)
                .chunk("efGh")
                .chunk("IEND");
    }

    private static void samplesAreRead() {
        Check.sentence("A sample of what was READ.");
        PortableFiles x = read(full());
        int[][] due = {{0, 1, 2}, {2, 0, 1}};
        for (int y = 0; y < 2; y++) {
            for (int i = 0; i < 3; i++) {
                Check.due("at " + i + " " + y, x.at(i, y, 0), due[y][i]);
            }
        }
        x = read(ChunkFile.head(2, 2, 8, 6)
                .chunk("IDAT", 0, 1, 2, 3, 4, 5, 6, 7).chunk("IDAT", 8, 0, 9, 10, 11, 12, 13, 14, 15, 16)
                .chunk("IEND"));
        for (int k = 0; k < 16; k++) {
            Check.due("at " + k, x.at(k / 4 % 2, k / 8, k % 4), k + 1);
        }
        x = read(ChunkFile.head(9, 1, 1, 0).chunk("IDAT", 0, 0xa5, 0x80).chunk("IEND"));
        for (int i = 0; i < 9; i++) {
            Check.due("at " + i, x.at(i, 0, 0), 0x14b >> 8 - i & 1);
        }
        x = read(ChunkFile.head(3, 1, 4, 0).chunk("IDAT", 0, 0x1f, 0xe0).chunk("IEND"));
        Check.due("at 0", x.at(0, 0, 0), 1);
        Check.due("at 1", x.at(1, 0, 0), 15);
        Check.due("at 2", x.at(2, 0, 0), 14);
    }

    private static void atNeedsItsSample() {
        Check.sentence("IndexOutOfBounds: there is no such sample, channel, entry, chunk or byte.");
        PortableFiles x = read(ChunkFile.head(2, 1, 8, 4).chunk("IDAT", 0, 1, 2, 3, 4).chunk("IEND"));
        x.head(12, 12, 8, 6);
        int[][] nowhere = {{2, 0, 0}, {-1, 0, 0}, {0, 1, 0}, {0, -1, 0}, {0, 0, 2}, {0, 0, -1}};
        for (int[] n : nowhere) {
            Check.dueThrow("at, though the picture has it", Check.INDEX, () -> x.at(n[0], n[1], n[2]));
        }
        for (int far : Check.FAR) {
            Check.dueThrow("column " + far, Check.INDEX, () -> x.at(far, 0, 0));
            Check.dueThrow("row " + far, Check.INDEX, () -> x.at(0, far, 0));
            Check.dueThrow("channel " + far, Check.INDEX, () -> x.at(0, 0, far));
        }
        Check.due("the last", x.at(1, 0, 1), 4);
        Check.due("the first", x.at(0, 0, 0), 1);
    }

    private static void foundTells() {
        Check.sentence("Of what was READ the width (what = 0), the height (1), BITS (2), KIND (3), entries (4),"
                + " TAGS 0 .. 2 (5 .. 7), EXTRAS (8), LEFT OUT chunks (9)");
        PortableFiles x = read(full());
        int[] due = {3, 2, 2, 3, 3, 45455, -1, 2835, 2, 1};
        for (int what = 0; what < due.length; what++) {
            Check.due("found " + what, x.found(what), due[what]);
        }
        x.drop();
        x.head(1, 1, 8, 0);
        x.write();
        x.pass(0, 100);
        x.read();
        int[] then = {1, 1, 8, 0, 0, -1, -1, -1, 0, 0};
        for (int what = 0; what < then.length; what++) {
            Check.due("then found " + what, x.found(what), then[what]);
        }
        x = read(ChunkFile.head(12, 12, 8, 6).chunk("sRGB", 0).chunk("IDAT", new int[255])
                .chunk("IDAT", new int[255]).chunk("IDAT", new int[78]).chunk("IEND"));
        int[] greatest = {12, 12, 8, 6, 0, -1, 0, -1, 0, 0};
        for (int what = 0; what < greatest.length; what++) {
            Check.due("greatest: found " + what, x.found(what), greatest[what]);
        }
    }

    private static void foundTellsNone() {
        Check.sentence("NONE for another what, and for a TAG that there is not.");
        PortableFiles x = read(full());
        for (int what : new int[] {-2, -1, 10, 11, 255, 256, 265}) {
            Check.due("found " + what, x.found(what), PortableFiles.NONE);
        }
        for (int what : Check.FAR) {
            Check.due("found " + what, x.found(what), PortableFiles.NONE);
        }
        PortableFiles y = read(ChunkFile.head(1, 1, 8, 0).chunk("IDAT", 0, 0).chunk("IEND"));
        for (int what = 5; what <= 7; what++) {
            Check.due("no tag", y.found(what), PortableFiles.NONE);
        }
    }

    private static void entriesAreRead() {
        Check.sentence("Red, green, blue, alpha (what = 0 .. 3) of an entry of what was READ.");
        PortableFiles x = read(full());
        int[][] due = {{1, 2, 3, 10}, {4, 5, 6, 20}, {7, 8, 9, 255}};
        for (int k = 0; k < 3; k++) {
            for (int what = 0; what < 4; what++) {
                Check.due("entry " + k + " " + what, x.entry(k, what), due[k][what]);
            }
        }
        x.head(1, 1, 8, 3);
        x.colour(99, 99, 99, 99);
        Check.due("not of the picture", x.entry(0, 0), 1);
    }

    private static void entryNeedsItsEntry() {
        Check.sentence("IndexOutOfBounds: there is no such sample, channel, entry, chunk or byte.");
        PortableFiles x = read(full());
        for (int k : new int[] {-2, -1, 3, 4, 63, 64, 255}) {
            Check.dueThrow("entry " + k, Check.INDEX, () -> x.entry(k, 0));
        }
        for (int k : Check.FAR) {
            Check.dueThrow("entry " + k, Check.INDEX, () -> x.entry(k, 3));
        }
        PortableFiles y = read(ChunkFile.head(1, 1, 8, 0).chunk("IDAT", 0, 0).chunk("IEND"));
        Check.dueThrow("no palette", Check.INDEX, () -> y.entry(0, 0));
    }

    private static void entryNeedsItsPart() {
        Check.sentence("IllegalArgument: another number is none that is told.");
        PortableFiles x = read(full());
        for (int what : new int[] {-2, -1, 4, 5, 255}) {
            Check.dueThrow("part " + what, Check.ARGUMENT, () -> x.entry(0, what));
            Check.dueThrow("part " + what, Check.ARGUMENT, () -> x.entry(2, what));
        }
        for (int what : Check.FAR) {
            Check.dueThrow("part " + what, Check.ARGUMENT, () -> x.entry(1, what));
        }
    }

    private static void extrasAreRead() {
        Check.sentence("Of an EXTRA of what was READ its letters (i = -1), or byte i.");
        PortableFiles x = read(full());
        Check.due("letters", x.unknown(0, -1), ABCD);
        Check.due("byte", x.unknown(0, 0), 200);
        Check.due("byte", x.unknown(0, 1), 201);
        Check.due("letters", x.unknown(1, -1), EFGH);
        x.head(1, 1, 8, 0);
        x.extra(ChunkFile.letters("zzZz"));
        Check.due("not of the picture", x.unknown(0, -1), ABCD);
        int[] forty = new int[40];
        forty[0] = 255;
        forty[39] = 254;
        ChunkFile six = ChunkFile.head(1, 1, 8, 0);
        for (int k = 0; k < 6; k++) {
            six.chunk("zzZ" + (char) ('A' + k), forty);
        }
        PortableFiles y = read(six.chunk("IDAT", 0, 0).chunk("IEND"));
        for (int k = 0; k < 6; k++) {
            Check.due("letters " + k, y.unknown(k, -1), ChunkFile.letters("zzZ" + (char) ('A' + k)));
            Check.due("the first byte", y.unknown(k, 0), 255);
            Check.due("the last byte", y.unknown(k, 39), 254);
        }
    }

    private static void unknownNeedsItsByte() {
        Check.sentence("IndexOutOfBounds: there is no such sample, channel, entry, chunk or byte.");
        PortableFiles x = read(full());
        for (int k : new int[] {-2, -1, 2, 3, 6}) {
            Check.dueThrow("no extra " + k, Check.INDEX, () -> x.unknown(k, -1));
            Check.dueThrow("no extra " + k, Check.INDEX, () -> x.unknown(k, 0));
        }
        for (int i : new int[] {-3, -2, 2, 3, 39, 40}) {
            Check.dueThrow("no byte " + i, Check.INDEX, () -> x.unknown(0, i));
        }
        for (int far : Check.FAR) {
            Check.dueThrow("no extra " + far, Check.INDEX, () -> x.unknown(far, -1));
            Check.dueThrow("no byte " + far, Check.INDEX, () -> x.unknown(0, far));
        }
        Check.dueThrow("an empty one has none", Check.INDEX, () -> x.unknown(1, 0));
        PortableFiles y = read(ChunkFile.head(1, 1, 8, 0).chunk("IDAT", 0, 0).chunk("IEND"));
        Check.dueThrow("none at all", Check.INDEX, () -> y.unknown(0, -1));
    }

    private static void dueNothingRead(String when, PortableFiles x) {
        Check.dueThrow(when + ": at", Check.STATE, () -> x.at(0, 0, 0));
        for (int what = -1; what <= 10; what++) {
            int w = what;
            Check.dueThrow(when + ": found " + w, Check.STATE, () -> x.found(w));
        }
        Check.dueThrow(when + ": entry", Check.STATE, () -> x.entry(0, 0));
        Check.dueThrow(when + ": unknown", Check.STATE, () -> x.unknown(0, -1));
        Check.dueThrow(when + ": take", Check.STATE, () -> x.take());
    }

    private static void nothingWasRead() {
        Check.sentence("nothing was READ");
        PortableFiles x = new PortableFiles();
        dueNothingRead("new", x);
        x.head(1, 1, 8, 3);
        x.colour(1, 2, 3, 4);
        x.extra(EFGH);
        x.write();
        dueNothingRead("written", x);
        x.pass(0, 2000);
        dueNothingRead("fed", x);
        x.read();
        Check.due("read", x.found(0), 1);
        x.drop();
        Check.due("dropped: what was read stays", x.found(0), 1);
        x.read();
        dueNothingRead("broken", x);
    }

    private static void takeMakesWhatWasReadThePicture() {
        Check.sentence("What was READ is the PICTURE.");
        PortableFiles x = read(full());
        Check.due("none before", x.told(1), PortableFiles.NONE);
        x.take();
        Check.due("kind", x.told(1), 3);
        Check.due("bits", x.told(2), 2);
        Check.due("extras", x.told(3), 2);
        Check.due("entries", x.told(6), 3);
        x.write();
        String due = ChunkFile.hex(ChunkFile.head(3, 2, 2, 3)
                .chunk("gAMA", 0, 0, 177, 143)
                .chunk("pHYs", 0, 0, 11, 19, 0, 0, 11, 19, 1)
                .chunk("PLTE", 1, 2, 3, 4, 5, 6, 7, 8, 9)
                .chunk("tRNS", 10, 20)
                .chunk("IDAT", 0, 0x18, 0, 0x84)
                .chunk("abCD", 200, 201)
                .chunk("efGh")
                .chunk("IEND").values());
        Check.due("written", ChunkFile.hex(ChunkFile.written(x)), due);
        Check.dueThrow("its last column", Check.INDEX, () -> x.put(3, 0, 0, 0));
        Check.dueThrow("its last row", Check.INDEX, () -> x.put(0, 2, 0, 0));
    }

    private static void takeLeavesNothingOfThePictureBefore() {
        Check.sentence("What was READ is the PICTURE.");
        PortableFiles x = read(ChunkFile.head(1, 1, 1, 0).chunk("IDAT", 0, 128).chunk("IEND"));
        x.head(12, 12, 8, 3);
        x.colour(1, 2, 3, 4);
        x.tag(0, 1);
        x.tag(1, 1);
        x.tag(2, 1);
        x.extra(EFGH);
        x.take();
        Check.due("kind", x.told(1), 0);
        Check.due("bits", x.told(2), 1);
        Check.due("extras", x.told(3), 0);
        Check.due("entries", x.told(6), 0);
        for (int what = 0; what < 3; what++) {
            Check.due("tag " + what, x.tag(what, -1), PortableFiles.NONE);
        }
        Check.dueThrow("a second column", Check.INDEX, () -> x.put(1, 0, 0, 0));
        Check.due("the sample", x.put(0, 0, 0, 0), 1);
    }

    private static void takeLeavesWhatWasRead() {
        Check.sentence("What was READ is the PICTURE.");
        PortableFiles x = read(full());
        x.take();
        x.put(0, 0, 0, 2);
        x.tag(0, -1);
        x.colour(9, 9, 9, 9);
        x.byteOf(0, 5);
        Check.due("a sample", x.at(0, 0, 0), 0);
        Check.due("a tag", x.found(5), 45455);
        Check.due("entries", x.found(4), 3);
        Check.due("extras", x.found(8), 2);
        Check.dueThrow("no byte of an extra", Check.INDEX, () -> x.unknown(1, 0));
        Check.due("extras of the picture", x.told(3), 1);
        x.take();
        Check.due("taken again: extras of the picture", x.told(3), 2);
        Check.due("a sample of the picture", x.put(0, 0, 0, 1), 0);
        x.drop();
        x.read();
        Check.due("the picture stays when a reading is broken", x.told(1), 3);
    }

    private static void toldTells() {
        Check.sentence("The FAULT of the latest reading (what = 0; 0 for none), KIND of the picture (1; NONE without"
                + " one), BITS (2; likewise), EXTRAS (3), bytes that were WRITTEN (4), that were fed (5), entries (6)");
        PortableFiles x = new PortableFiles();
        x.head(1, 1, 4, 3);
        x.colour(1, 1, 1, 1);
        x.colour(1, 1, 1, 1);
        x.extra(EFGH);
        int n = x.write();
        x.feed(137);
        int[] due = {0, 3, 4, 1, n, 1, 2};
        for (int what = 0; what < due.length; what++) {
            Check.due("told " + what, x.told(what), due[what]);
        }
        Check.due("bytes", n, 8 + 25 + 18 + 14 + 14 + 12 + 12);
    }

    private static void toldTellsTheLatestFault() {
        Check.sentence("The FAULT of the latest reading (what = 0; 0 for none)");
        PortableFiles x = new PortableFiles();
        Check.due("no reading yet", x.told(0), 0);
        x.head(1, 1, 8, 0);
        int n = x.write();
        x.read();
        Check.due("broken", x.told(0), 1);
        x.pass(0, n);
        Check.due("fed, but not read yet", x.told(0), 1);
        x.read();
        Check.due("none", x.told(0), 0);
        x.alter(42, 1, false);
        Check.due("altered, but not read yet", x.told(0), 0);
        x.read();
        Check.due("broken by a sum", x.told(0), 4);
        x.head(2, 2, 8, 0);
        x.drop();
        Check.due("it stays", x.told(0), 4);
    }

    private static void toldTellsNoneWithoutAPicture() {
        Check.sentence("KIND of the picture (1; NONE without one), BITS (2; likewise)");
        PortableFiles x = read(full());
        Check.due("kind", x.told(1), PortableFiles.NONE);
        Check.due("bits", x.told(2), PortableFiles.NONE);
        Check.due("extras are not those that were read", x.told(3), 0);
        Check.due("entries are not those that were read", x.told(6), 0);
        Check.dueThrow("a picture that may not be", Check.ARGUMENT, () -> x.head(1, 1, 8, 5));
        Check.due("still none", x.told(1), PortableFiles.NONE);
        x.head(1, 1, 1, 0);
        Check.due("kind", x.told(1), 0);
        Check.due("bits", x.told(2), 1);
    }

    private static void toldTellsNone() {
        Check.sentence("NONE for another what.");
        for (PortableFiles x : new PortableFiles[] {new PortableFiles(), read(full())}) {
            for (int what : new int[] {-2, -1, 7, 8, 255, 256}) {
                Check.due("told " + what, x.told(what), PortableFiles.NONE);
            }
            for (int what : Check.FAR) {
                Check.due("told " + what, x.told(what), PortableFiles.NONE);
            }
        }
    }
}
