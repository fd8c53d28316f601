import java.util.Arrays;

/** Promise 14: read, with each fault at its place. */
public final class ReadTest {
    private static final int CUT = 1;
    private static final int LENGTH = 2;
    private static final int LETTERS = 3;
    private static final int SUM = 4;
    private static final int ORDER = 5;
    private static final int UNKNOWN = 6;
    private static final int VALUE = 7;
    private static final int DATA = 8;

    public static void main(String[] args) {
        cuts();
        lengths();
        letters();
        sums();
        leftOutChunks();
        orderOfTheHead();
        orderOfTags();
        orderOfPalettes();
        orderOfRows();
        unknownChunks();
        valuesOfTheHead();
        valuesOfTags();
        valuesOfPalettes();
        valuesOfExtrasAndTheEnd();
        dataOfRows();
        theFirstFaultIsTold();
        chunksAreCounted();
        aBrokenReadingLeavesNothingRead();
        Check.end();
    }

    private static PortableFiles fed(ChunkFile file) {
        PortableFiles x = new PortableFiles();
        file.feedTo(x);
        return x;
    }

    private static void dueFault(String what, ChunkFile file, int fault, int place) {
        PortableFiles x = fed(file);
        Check.due(what + ": read", x.read(), -1 - place);
        Check.due(what + ": told(0)", x.told(0), fault);
        Check.dueThrow(what + ": found", Check.STATE, () -> x.found(0));
    }

    private static PortableFiles dueChunks(String what, ChunkFile file, int chunks) {
        PortableFiles x = fed(file);
        Check.due(what + ": read", x.read(), chunks);
        Check.due(what + ": told(0)", x.told(0), 0);
        return x;
    }

    /** A head of 1 by 1; the next chunk stands at 33. */
    private static ChunkFile head(int bits, int kind) {
        return ChunkFile.head(1, 1, bits, kind);
    }

    /** Ends a file of kind 0 rightly. */
    private static ChunkFile ended(ChunkFile file) {
        return file.chunk("IDAT", 0, 0).chunk("IEND");
    }

    private static void cuts() {
        dueFault("nothing", new ChunkFile(), CUT, 0);
        dueFault("seven bytes", new ChunkFile().raw(137, 80, 78, 71, 13, 10, 26), CUT, 0);
        int[] all = ended(head(8, 0)).values();
        for (int i = 0; i < 8; i++) {
            int[] other = all.clone();
            other[i] ^= 1;
            dueFault("byte " + i, new ChunkFile().raw(other), CUT, 0);
        }
        for (int n = 0; n < all.length; n++) {
            int place = n < 8 ? 0 : n < 33 ? 8 : n < 47 ? 33 : 47;
            dueFault(n + " bytes", new ChunkFile().raw(Arrays.copyOf(all, n)), CUT, place);
        }
        dueChunks("all bytes", new ChunkFile().raw(all), 3);
        dueChunks("more bytes", new ChunkFile().raw(all).raw(1, 2, 3), 3);
        dueChunks("a second IEND", new ChunkFile().raw(all).chunk("IEND", 1), 3);
        dueFault("a chunk that takes one byte too many", head(8, 0).number(1).raw('a', 'b', 'C', 'd', 0, 0, 0, 0),
                CUT, 33);
    }

    private static void lengths() {
        dueFault("256", head(8, 0).number(256).raw('a', 'b', 'C', 'd', 0, 0, 0, 0), LENGTH, 33);
        dueFault("255", head(8, 0).number(255).raw('a', 'b', 'C', 'd', 0, 0, 0, 0), CUT, 33);
        dueFault("65536", head(8, 0).number(65536).raw('a', 'b', 'C', 'd', 0, 0, 0, 0), LENGTH, 33);
        dueFault("the greatest", head(8, 0).number(0xffffffffL).raw(1, 1, 1, 1, 0, 0, 0, 0), LENGTH, 33);
        dueFault("the sign's bit", head(8, 0).number(0x80000000L).raw(1, 1, 1, 1, 0, 0, 0, 0), LENGTH, 33);
        dueFault("too few bytes for a number", head(8, 0).number(0xffffffffL).raw(1, 1, 1, 1, 0, 0, 0), CUT, 33);
        dueFault("255 bytes are not too long", ended(head(8, 0).chunk("abCd", new int[255])), VALUE, 33);
        dueFault("256 bytes are", ended(head(8, 0).chunk("abCd", new int[256])), LENGTH, 33);
    }

    private static void letters() {
        String[] wrong = {
            "1bCd", "a1Cd", "ab1d", "abC1", "abcd", "IDaT", "@bCd", "[bCd", "`bCd", "{bCd", "a@Cd", "a[Cd",
            "a`Cd", "a{Cd", "ab@d", "ab[d", "ab`d", "ab{d", "abC@", "abC[", "abC`", "abC{", "\u00e4bCd"
        };
        for (String w : wrong) {
            dueFault(w, ended(head(8, 0).chunk(w)), LETTERS, 33);
            dueFault(w + " with a wrong sum", ended(head(8, 0).chunkWithWrongSum(w)), LETTERS, 33);
        }
        for (String right : new String[] {"aAAa", "zZZz", "aaAA", "zzZZ"}) {
            dueChunks(right, ended(head(8, 0).chunk(right)), 4);
        }
    }

    private static void sums() {
        dueFault("IHDR", ChunkFile.begin().chunkWithWrongSum("IHDR", 0, 0, 0, 1, 0, 0, 0, 1, 8, 0, 0, 0, 0),
                SUM, 8);
        dueFault("IDAT", head(8, 0).chunkWithWrongSum("IDAT", 0, 0), SUM, 33);
        dueFault("IEND", head(8, 0).chunk("IDAT", 0, 0).chunkWithWrongSum("IEND"), SUM, 47);
        dueFault("PLTE", head(8, 3).chunkWithWrongSum("PLTE", 1, 2, 3), SUM, 33);
        dueFault("an unknown one", head(8, 0).chunkWithWrongSum("AbCd"), SUM, 33);
        dueFault("IDAT as the first", ChunkFile.begin().chunkWithWrongSum("IDAT", 0, 0), SUM, 8);
    }

    private static void leftOutChunks() {
        PortableFiles x = dueChunks("gAMA left out", ended(head(8, 0)
                .chunkWithWrongSum("gAMA", 0, 0, 0, 9).chunk("gAMA", 0, 0, 0, 8)), 4);
        Check.due("left out", x.found(9), 1);
        Check.due("gamma", x.found(5), 8);
        x = dueChunks("before IHDR and behind IDAT", ChunkFile.begin()
                .chunkWithWrongSum("tRNS").chunkWithWrongSum("abCd", new int[255])
                .chunk("IHDR", 0, 0, 0, 1, 0, 0, 0, 1, 8, 0, 0, 0, 0).chunk("IDAT", 0, 0)
                .chunkWithWrongSum("sRGB", 9).chunk("IEND"), 3);
        Check.due("left out", x.found(9), 3);
        Check.due("intent", x.found(6), -1);
        Check.due("extras", x.found(8), 0);
        dueFault("between IDATs", head(8, 0).chunk("IDAT", 0).chunkWithWrongSum("abCd").chunk("IDAT", 0)
                .chunk("IEND"), ORDER, 58);
        dueFault("a tag behind a left out one behind IDAT", head(8, 0).chunk("IDAT", 0, 0)
                .chunkWithWrongSum("gAMA", 0, 0, 0, 9).chunk("gAMA", 0, 0, 0, 9), ORDER, 63);
    }

    private static void orderOfTheHead() {
        for (String first : new String[] {"IDAT", "IEND", "PLTE", "gAMA", "sRGB", "pHYs", "tRNS", "abCd", "AbCd"}) {
            dueFault(first, ended(ChunkFile.begin().chunk(first)), ORDER, 8);
        }
        int[] one = {0, 0, 0, 1, 0, 0, 0, 1, 8, 0, 0, 0, 0};
        dueFault("a second IHDR", ended(head(8, 0).chunk("IHDR", one)), ORDER, 33);
        dueFault("a second IHDR with wrong values", ended(head(8, 0).chunk("IHDR")), ORDER, 33);
        dueFault("IHDR behind IDAT", head(8, 0).chunk("IDAT", 0, 0).chunk("IHDR", one), ORDER, 47);
    }

    private static void orderOfTags() {
        String[] names = {"gAMA", "sRGB", "pHYs"};
        int[][] data = {{0, 0, 0, 1}, {1}, {0, 0, 0, 1, 0, 0, 0, 1, 1}};
        for (int k = 0; k < 3; k++) {
            int n = 12 + data[k].length;
            dueFault(names[k] + " behind IDAT",
                    head(8, 0).chunk("IDAT", 0, 0).chunk(names[k], data[k]).chunk("IEND"), ORDER, 47);
            dueFault(names[k] + " twice",
                    ended(head(8, 0).chunk(names[k], data[k]).chunk(names[k], data[k])), ORDER, 33 + n);
            dueFault(names[k] + " twice, wrong",
                    ended(head(8, 0).chunk(names[k], data[k]).chunk(names[k])), ORDER, 33 + n);
            ChunkFile behindPalette = ended(head(8, 2).chunk("PLTE", 1, 2, 3).chunk(names[k], data[k]));
            if (k < 2) {
                dueFault(names[k] + " behind PLTE", behindPalette, ORDER, 48);
            }
        }
        dueChunks("pHYs behind PLTE", head(8, 3).chunk("PLTE", 1, 2, 3).chunk("pHYs", data[2])
                .chunk("IDAT", 0, 0).chunk("IEND"), 5);
        dueChunks("in another order", ended(head(8, 0)
                .chunk("pHYs", data[2]).chunk("sRGB", data[1]).chunk("abCd").chunk("gAMA", data[0])), 7);
    }

    private static void orderOfPalettes() {
        dueFault("PLTE for kind 0", ended(head(8, 0).chunk("PLTE", 1, 2, 3)), ORDER, 33);
        dueFault("PLTE for kind 4", ended(head(8, 4).chunk("PLTE", 1, 2, 3)), ORDER, 33);
        dueFault("PLTE twice", ended(head(8, 3).chunk("PLTE", 1, 2, 3).chunk("PLTE", 1, 2, 3)), ORDER, 48);
        dueFault("PLTE twice for kind 2", ended(head(8, 2).chunk("PLTE", 1, 2, 3).chunk("PLTE", 1, 2, 3)),
                ORDER, 48);
        dueFault("PLTE behind IDAT", head(8, 6).chunk("IDAT", 0, 0, 0, 0, 0).chunk("PLTE", 1, 2, 3), ORDER, 50);
        dueFault("IDAT before PLTE", head(8, 3).chunk("IDAT", 0, 0).chunk("PLTE", 1, 2, 3), ORDER, 33);
        dueFault("tRNS before PLTE", head(8, 3).chunk("tRNS", 1).chunk("PLTE", 1, 2, 3), ORDER, 33);
        dueFault("tRNS twice", ended(head(8, 3).chunk("PLTE", 1, 2, 3).chunk("tRNS", 1).chunk("tRNS", 1)),
                ORDER, 61);
        dueFault("tRNS behind IDAT", head(8, 3).chunk("PLTE", 1, 2, 3).chunk("IDAT", 0, 0).chunk("tRNS", 1),
                ORDER, 62);
        for (int kind : new int[] {0, 2, 4, 6}) {
            dueFault("tRNS without PLTE for kind " + kind, ended(head(8, kind).chunk("tRNS", 1)), ORDER, 33);
        }
    }

    private static void orderOfRows() {
        dueFault("IEND before an IDAT", head(8, 0).chunk("IEND"), ORDER, 33);
        dueFault("IEND before an IDAT, not empty", head(8, 0).chunk("IEND", 1), ORDER, 33);
        dueFault("IDAT, an extra, IDAT", head(8, 0).chunk("IDAT", 0).chunk("abCd").chunk("IDAT", 0), ORDER, 58);
        dueFault("IDAT, two extras, IDAT",
                head(8, 0).chunk("IDAT", 0).chunk("abCd").chunk("abCd").chunk("IDAT", 0), ORDER, 70);
        dueChunks("IDATs in pieces, empty ones too",
                head(8, 0).chunk("IDAT").chunk("IDAT", 0).chunk("IDAT").chunk("IDAT", 5).chunk("IEND"), 6);
        dueChunks("extras round IDATs", head(8, 0).chunk("abCd").chunk("IDAT", 0).chunk("IDAT", 5)
                .chunk("abCd").chunk("IEND"), 6);
    }

    private static void unknownChunks() {
        for (String great : new String[] {"AbCd", "IDAt", "ZZZZ", "IHdR"}) {
            int fault = great.equals("IHdR") ? LETTERS : UNKNOWN;
            dueFault(great, ended(head(8, 0).chunk(great)), fault, 33);
        }
        dueFault("behind IDAT", head(8, 0).chunk("IDAT", 0, 0).chunk("AbCd", new int[200]), UNKNOWN, 47);
    }

    private static void valuesOfTheHead() {
        int[] right = {0, 0, 0, 1, 0, 0, 0, 1, 8, 0, 0, 0, 0};
        int[][] wrong = {
            {3, 0}, {3, 13}, {2, 1}, {0, 128}, {7, 0}, {7, 13}, {4, 128}, {8, 0}, {8, 3}, {8, 16}, {9, 1},
            {9, 5}, {9, 7}, {10, 1}, {11, 1}, {12, 1}
        };
        for (int[] w : wrong) {
            int[] data = right.clone();
            data[w[0]] = w[1];
            dueFault("IHDR " + Arrays.toString(data), ended(ChunkFile.begin().chunk("IHDR", data)), VALUE, 8);
        }
        dueFault("4 bits for kind 2",
                ChunkFile.begin().chunk("IHDR", 0, 0, 0, 1, 0, 0, 0, 1, 4, 2, 0, 0, 0), VALUE, 8);
        dueFault("12 bytes", ended(ChunkFile.begin().chunk("IHDR", Arrays.copyOf(right, 12))), VALUE, 8);
        dueFault("14 bytes", ended(ChunkFile.begin().chunk("IHDR", Arrays.copyOf(right, 14))), VALUE, 8);
        dueFault("no bytes", ended(ChunkFile.begin().chunk("IHDR")), VALUE, 8);
    }

    private static void valuesOfTags() {
        dueFault("gamma 0", ended(head(8, 0).chunk("gAMA", 0, 0, 0, 0)), VALUE, 33);
        dueFault("gamma with a sign", ended(head(8, 0).chunk("gAMA", 128, 0, 0, 0)), VALUE, 33);
        dueFault("gamma of 3", ended(head(8, 0).chunk("gAMA", 0, 0, 1)), VALUE, 33);
        dueFault("gamma of 5", ended(head(8, 0).chunk("gAMA", 0, 0, 0, 1, 0)), VALUE, 33);
        dueFault("intent 4", ended(head(8, 0).chunk("sRGB", 4)), VALUE, 33);
        dueFault("intent 255", ended(head(8, 0).chunk("sRGB", 255)), VALUE, 33);
        dueFault("no intent", ended(head(8, 0).chunk("sRGB")), VALUE, 33);
        dueFault("intent of 2", ended(head(8, 0).chunk("sRGB", 0, 0)), VALUE, 33);
        dueFault("samples alike", ended(head(8, 0).chunk("pHYs", 0, 0, 0, 1, 0, 0, 0, 2, 1)), VALUE, 33);
        dueFault("samples 0", ended(head(8, 0).chunk("pHYs", 0, 0, 0, 0, 0, 0, 0, 0, 1)), VALUE, 33);
        dueFault("samples with a sign", ended(head(8, 0).chunk("pHYs", 255, 0, 0, 0, 255, 0, 0, 0, 1)), VALUE, 33);
        dueFault("no metres", ended(head(8, 0).chunk("pHYs", 0, 0, 0, 1, 0, 0, 0, 1, 0)), VALUE, 33);
        dueFault("samples of 8", ended(head(8, 0).chunk("pHYs", 0, 0, 0, 1, 0, 0, 0, 1)), VALUE, 33);
        dueFault("samples of 10", ended(head(8, 0).chunk("pHYs", 0, 0, 0, 1, 0, 0, 0, 1, 1, 0)), VALUE, 33);
        PortableFiles x = dueChunks("greatest", ended(head(8, 0)
                .chunk("gAMA", 127, 255, 255, 255).chunk("sRGB", 3)
                .chunk("pHYs", 127, 255, 255, 255, 127, 255, 255, 255, 1)), 6);
        Check.due("gamma", x.found(5), Integer.MAX_VALUE);
        Check.due("intent", x.found(6), 3);
        Check.due("samples a metre", x.found(7), Integer.MAX_VALUE);
    }

    private static void valuesOfPalettes() {
        int[][] most = {{1, 2}, {2, 4}, {4, 16}, {8, 64}};
        for (int[] m : most) {
            PortableFiles x = dueChunks(m[0] + " bits", head(m[0], 3).chunk("PLTE", new int[3 * m[1]])
                    .chunk("IDAT", 0, 0).chunk("IEND"), 4);
            Check.due("entries", x.found(4), m[1]);
            dueFault(m[0] + " bits", head(m[0], 3).chunk("PLTE", new int[3 * m[1] + 3]), VALUE, 33);
        }
        dueFault("no entry", head(8, 3).chunk("PLTE"), VALUE, 33);
        dueFault("four bytes", head(8, 3).chunk("PLTE", 1, 2, 3, 4), VALUE, 33);
        dueFault("five bytes", head(8, 3).chunk("PLTE", 1, 2, 3, 4, 5), VALUE, 33);
        dueFault("kind 2: no entry", head(8, 2).chunk("PLTE"), VALUE, 33);
        dueFault("kind 6: 65 entries", head(8, 6).chunk("PLTE", new int[195]), VALUE, 33);
        PortableFiles x = dueChunks("kind 2: passed over", head(8, 2).chunk("PLTE", new int[192])
                .chunk("IDAT", 0, 1, 2, 3).chunk("IEND"), 4);
        Check.due("entries", x.found(4), 0);
        dueFault("kind 2: tRNS", head(8, 2).chunk("PLTE", 1, 2, 3).chunk("tRNS", 1), VALUE, 48);
        dueFault("kind 6: tRNS", head(8, 6).chunk("PLTE", 1, 2, 3).chunk("tRNS", 1), VALUE, 48);
        dueFault("empty tRNS", head(8, 3).chunk("PLTE", 1, 2, 3).chunk("tRNS"), VALUE, 48);
        dueFault("more than PLTE", head(8, 3).chunk("PLTE", 1, 2, 3).chunk("tRNS", 1, 2), VALUE, 48);
        dueChunks("as many as PLTE", head(8, 3).chunk("PLTE", 1, 2, 3).chunk("tRNS", 1)
                .chunk("IDAT", 0, 0).chunk("IEND"), 5);
    }

    private static void valuesOfExtrasAndTheEnd() {
        dueChunks("40 bytes", ended(head(8, 0).chunk("abCd", new int[40])), 4);
        dueFault("41 bytes", ended(head(8, 0).chunk("abCd", new int[41])), VALUE, 33);
        ChunkFile six = head(8, 0);
        for (int k = 0; k < 6; k++) {
            six.chunk("abCd");
        }
        ChunkFile seven = new ChunkFile().raw(six.values()).chunk("abCd");
        dueFault("the seventh", ended(seven), VALUE, 33 + 72);
        dueChunks("the seventh left out", ended(six.chunkWithWrongSum("abCd")), 9);
        dueFault("IEND not empty", head(8, 0).chunk("IDAT", 0, 0).chunk("IEND", 0), VALUE, 47);
        dueFault("IEND not empty, before wrong data", head(8, 0).chunk("IDAT", 9).chunk("IEND", 0), VALUE, 46);
    }

    private static void dataOfRows() {
        dueFault("too few", head(8, 0).chunk("IDAT", 0).chunk("IEND"), DATA, 46);
        dueFault("none", head(8, 0).chunk("IDAT").chunk("IEND"), DATA, 45);
        dueFault("too many", head(8, 0).chunk("IDAT", 0, 0).chunk("IDAT", 0).chunk("IEND"), DATA, 60);
        dueFault("a row's first byte", head(8, 0).chunk("IDAT", 1, 0).chunk("IEND"), DATA, 47);
        dueFault("the second row's", ChunkFile.head(1, 2, 8, 0).chunk("IDAT", 0, 0, 4, 0).chunk("IEND"), DATA, 49);
        int[] used = {1, 2, 4};
        for (int bits : used) {
            dueChunks(bits + " bits", head(bits, 0).chunk("IDAT", 0, 255 << 8 - bits & 255).chunk("IEND"), 3);
            dueFault(bits + " bits: not filled",
                    head(bits, 0).chunk("IDAT", 0, 1 << 7 - bits).chunk("IEND"), DATA, 47);
            dueFault(bits + " bits: not filled", head(bits, 0).chunk("IDAT", 0, 1).chunk("IEND"), DATA, 47);
        }
        dueChunks("a full last byte", ChunkFile.head(8, 1, 1, 0).chunk("IDAT", 0, 255).chunk("IEND"), 3);
        dueFault("nine bits", ChunkFile.head(9, 1, 1, 0).chunk("IDAT", 0, 255, 64).chunk("IEND"), DATA, 48);
        dueFault("beyond the palette",
                head(8, 3).chunk("PLTE", 1, 2, 3).chunk("IDAT", 0, 1).chunk("IEND"), DATA, 62);
        dueFault("beyond the palette, 4 bits", ChunkFile.head(2, 1, 4, 3)
                .chunk("PLTE", 1, 2, 3, 4, 5, 6).chunk("IDAT", 0, 0x12).chunk("IEND"), DATA, 65);
        dueChunks("the last entry", ChunkFile.head(2, 1, 4, 3)
                .chunk("PLTE", 1, 2, 3, 4, 5, 6).chunk("IDAT", 0, 0x11).chunk("IEND"), 4);
        dueFault("an extra between", head(8, 0).chunk("IDAT", 1, 0).chunk("abCd", 1).chunk("IEND"), DATA, 60);
    }

    private static void theFirstFaultIsTold() {
        dueFault("the first chunk's", ChunkFile.begin().chunk("IHDR").chunk("ab1d"), VALUE, 8);
        dueFault("order before unknown", ChunkFile.begin().chunk("AbCd"), ORDER, 8);
        dueFault("sum before order", ChunkFile.begin().chunkWithWrongSum("AbCd"), SUM, 8);
        dueFault("order before value", head(8, 0).chunk("PLTE"), ORDER, 33);
        dueFault("a fault before wrong data", head(8, 0).chunk("IDAT", 1, 1, 1).chunk("AbCd"), UNKNOWN, 48);
    }

    private static void chunksAreCounted() {
        PortableFiles x = dueChunks("all of them", head(8, 3)
                .chunk("gAMA", 0, 0, 0, 1).chunk("sRGB", 0).chunk("pHYs", 0, 0, 0, 1, 0, 0, 0, 1, 1)
                .chunk("PLTE", 1, 2, 3).chunk("tRNS", 0).chunkWithWrongSum("abCd").chunk("abCd")
                .chunk("IDAT", 0).chunk("IDAT", 0).chunk("abCd").chunk("IEND"), 11);
        Check.due("again", x.read(), 11);
        Check.due("left out", x.found(9), 1);
        Check.due("extras", x.found(8), 2);
    }

    private static void aBrokenReadingLeavesNothingRead() {
        PortableFiles x = dueChunks("right", ended(head(8, 0).chunk("abCd", 1)), 4);
        Check.due("width", x.found(0), 1);
        x.alter(0, 0, false);
        Check.due("not read yet", x.found(0), 1);
        Check.due("broken", x.read(), -1);
        Check.dueThrow("at", Check.STATE, () -> x.at(0, 0, 0));
        Check.dueThrow("found", Check.STATE, () -> x.found(0));
        Check.dueThrow("entry", Check.STATE, () -> x.entry(0, 0));
        Check.dueThrow("unknown", Check.STATE, () -> x.unknown(0, -1));
        Check.dueThrow("take", Check.STATE, () -> x.take());
        x.alter(0, 137, false);
        Check.due("right again", x.read(), 4);
        Check.due("told(0)", x.told(0), 0);
        Check.due("what it told before is not told twice", x.found(8), 1);
    }
}
