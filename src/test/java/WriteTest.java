/** Promises 9 and 10: write and byteAt. */
public final class WriteTest {
    public static void main(String[] args) {
        greyIsPackedByBits();
        channelsStandInOrder();
        tagsThatThereAreStandBeforeThePalette();
        alphasGoAsFarAsTheLastThatIsNotFull();
        rowsAreCutIntoSixties();
        theGreatestFileIsWhole();
        extrasStandInOrder();
        whatWasWrittenStays();
        byteAtAsksForItsIndex();
        Check.end();
    }

    private static void dueFile(String what, PortableFiles x, ChunkFile due) {
        Check.due(what + ": write", x.write(), due.size());
        Check.due(what + ": told(4)", x.told(4), due.size());
        Check.due(what, ChunkFile.hex(ChunkFile.written(x)), ChunkFile.hex(due.values()));
    }

    private static void greyIsPackedByBits() {
        PortableFiles x = new PortableFiles();
        x.head(9, 1, 1, 0);
        x.put(0, 0, 0, 1);
        x.put(6, 0, 0, 1);
        x.put(8, 0, 0, 1);
        dueFile("1 bit", x, ChunkFile.head(9, 1, 1, 0).chunk("IDAT", 0, 0x82, 0x80).chunk("IEND"));
        x.head(5, 2, 2, 0);
        x.put(0, 0, 0, 3);
        x.put(3, 0, 0, 1);
        x.put(4, 0, 0, 2);
        x.put(1, 1, 0, 2);
        dueFile("2 bits", x,
                ChunkFile.head(5, 2, 2, 0).chunk("IDAT", 0, 0xc1, 0x80, 0, 0x20, 0).chunk("IEND"));
        x.head(3, 1, 4, 0);
        x.put(0, 0, 0, 1);
        x.put(1, 0, 0, 2);
        x.put(2, 0, 0, 15);
        dueFile("4 bits", x, ChunkFile.head(3, 1, 4, 0).chunk("IDAT", 0, 0x12, 0xf0).chunk("IEND"));
        x.head(2, 2, 8, 0);
        x.put(1, 0, 0, 255);
        x.put(0, 1, 0, 128);
        dueFile("8 bits", x, ChunkFile.head(2, 2, 8, 0).chunk("IDAT", 0, 0, 255, 0, 128, 0).chunk("IEND"));
    }

    private static void channelsStandInOrder() {
        int[][] kinds = {{2, 3}, {4, 2}, {6, 4}};
        for (int[] k : kinds) {
            PortableFiles x = new PortableFiles();
            x.head(2, 1, 8, k[0]);
            int[] row = new int[1 + 2 * k[1]];
            for (int i = 0; i < 2; i++) {
                for (int c = 0; c < k[1]; c++) {
                    x.put(i, 0, c, 10 * i + c + 1);
                    row[1 + i * k[1] + c] = 10 * i + c + 1;
                }
            }
            dueFile("kind " + k[0], x, ChunkFile.head(2, 1, 8, k[0]).chunk("IDAT", row).chunk("IEND"));
        }
    }

    private static void tagsThatThereAreStandBeforeThePalette() {
        PortableFiles x = new PortableFiles();
        x.head(1, 1, 8, 3);
        x.colour(1, 2, 3, 255);
        x.tag(2, Integer.MAX_VALUE);
        x.tag(1, 0);
        x.tag(0, 0x01020304);
        dueFile("all tags", x, ChunkFile.head(1, 1, 8, 3)
                .chunk("gAMA", 1, 2, 3, 4)
                .chunk("sRGB", 0)
                .chunk("pHYs", 127, 255, 255, 255, 127, 255, 255, 255, 1)
                .chunk("PLTE", 1, 2, 3)
                .chunk("IDAT", 0, 0)
                .chunk("IEND"));
        x.tag(1, -1);
        x.tag(0, -1);
        dueFile("one tag", x, ChunkFile.head(1, 1, 8, 3)
                .chunk("pHYs", 127, 255, 255, 255, 127, 255, 255, 255, 1)
                .chunk("PLTE", 1, 2, 3)
                .chunk("IDAT", 0, 0)
                .chunk("IEND"));
    }

    private static void alphasGoAsFarAsTheLastThatIsNotFull() {
        PortableFiles x = new PortableFiles();
        x.head(1, 1, 4, 3);
        Check.dueThrow("no entry", Check.STATE, () -> x.write());
        x.colour(1, 2, 3, 0);
        dueFile("one entry", x, ChunkFile.head(1, 1, 4, 3)
                .chunk("PLTE", 1, 2, 3).chunk("tRNS", 0).chunk("IDAT", 0, 0).chunk("IEND"));
        x.head(1, 1, 4, 3);
        x.colour(1, 2, 3, 255);
        x.colour(4, 5, 6, 255);
        dueFile("full alphas", x, ChunkFile.head(1, 1, 4, 3)
                .chunk("PLTE", 1, 2, 3, 4, 5, 6).chunk("IDAT", 0, 0).chunk("IEND"));
        x.colour(7, 8, 9, 254);
        x.colour(255, 0, 255, 255);
        dueFile("one alpha", x, ChunkFile.head(1, 1, 4, 3)
                .chunk("PLTE", 1, 2, 3, 4, 5, 6, 7, 8, 9, 255, 0, 255)
                .chunk("tRNS", 255, 255, 254)
                .chunk("IDAT", 0, 0).chunk("IEND"));
        x.colour(0, 0, 0, 0);
        dueFile("the last alpha", x, ChunkFile.head(1, 1, 4, 3)
                .chunk("PLTE", 1, 2, 3, 4, 5, 6, 7, 8, 9, 255, 0, 255, 0, 0, 0)
                .chunk("tRNS", 255, 255, 254, 255, 0)
                .chunk("IDAT", 0, 0).chunk("IEND"));
    }

    private static void rowsAreCutIntoSixties() {
        PortableFiles x = new PortableFiles();
        x.head(4, 12, 8, 0);
        dueFile("60 bytes", x, ChunkFile.head(4, 12, 8, 0).chunk("IDAT", new int[60]).chunk("IEND"));
        x.head(9, 12, 8, 0);
        dueFile("120 bytes", x, ChunkFile.head(9, 12, 8, 0)
                .chunk("IDAT", new int[60]).chunk("IDAT", new int[60]).chunk("IEND"));
        x.head(5, 11, 8, 0);
        x.put(4, 9, 0, 5);
        x.put(0, 10, 0, 6);
        int[] first = new int[60];
        first[59] = 5;
        dueFile("66 bytes", x, ChunkFile.head(5, 11, 8, 0)
                .chunk("IDAT", first).chunk("IDAT", 0, 6, 0, 0, 0, 0).chunk("IEND"));
    }

    private static void theGreatestFileIsWhole() {
        PortableFiles x = new PortableFiles();
        x.head(12, 12, 8, 6);
        x.tag(0, 1);
        x.tag(1, 3);
        x.tag(2, 1);
        for (int k = 0; k < 6; k++) {
            x.extra(ChunkFile.letters("abCd"));
            for (int i = 0; i < 40; i++) {
                x.byteOf(k, 7);
            }
        }
        x.put(11, 11, 3, 99);
        Check.due("greatest", x.write(), 1115);
        Check.due("its last byte", x.byteAt(1114), 0x82);
        Check.due("passed", x.pass(0, 2000), 1115);
        Check.due("chunks", x.read(), 1 + 3 + 10 + 6 + 1);
        Check.due("the last sample", x.at(11, 11, 3), 99);
        Check.due("the last byte of the last extra", x.unknown(5, 39), 7);
    }

    private static void extrasStandInOrder() {
        PortableFiles x = new PortableFiles();
        x.head(1, 1, 8, 0);
        x.extra(ChunkFile.letters("zzZz"));
        x.extra(ChunkFile.letters("aaAA"));
        x.byteOf(1, 255);
        x.byteOf(1, 0);
        dueFile("extras", x, ChunkFile.head(1, 1, 8, 0)
                .chunk("IDAT", 0, 0).chunk("zzZz").chunk("aaAA", 255, 0).chunk("IEND"));
    }

    private static void whatWasWrittenStays() {
        PortableFiles x = new PortableFiles();
        x.head(1, 1, 8, 0);
        x.put(0, 0, 0, 77);
        int n = x.write();
        x.put(0, 0, 0, 78);
        x.head(1, 1, 8, 3);
        Check.dueThrow("no entry", Check.STATE, () -> x.write());
        Check.due("told(4)", x.told(4), n);
        Check.due("the sample", x.byteAt(42), 77);
        x.head(1, 1, 8, 0);
        x.put(0, 0, 0, 78);
        Check.due("written anew", x.write(), n);
        Check.due("the sample", x.byteAt(42), 78);
    }

    private static void byteAtAsksForItsIndex() {
        PortableFiles x = new PortableFiles();
        x.head(1, 1, 8, 0);
        int n = x.write();
        Check.due("first", x.byteAt(0), 137);
        Check.due("last", x.byteAt(n - 1), 0x82);
        Check.dueThrow("below", Check.INDEX, () -> x.byteAt(-1));
        Check.dueThrow("beyond", Check.INDEX, () -> x.byteAt(n));
        Check.dueThrow("far", Check.INDEX, () -> x.byteAt(Integer.MAX_VALUE));
        Check.dueThrow("far", Check.INDEX, () -> x.byteAt(Integer.MIN_VALUE));
    }
}
