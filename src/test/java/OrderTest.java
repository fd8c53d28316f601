/** Promise 14: the FAULTS ORDER and UNKNOWN, each rule with what it names and what stands next to it. */
public final class OrderTest {
    private static final String[] ONCE = {"gAMA", "sRGB", "pHYs", "PLTE", "tRNS"};

    public static void main(String[] args) {
        theFirstIsTheHead();
        aLaterHead();
        behindRows();
        twice();
        tagsBehindPalette();
        alphasBeforePalette();
        palettesOfGrey();
        rowsBehindOthers();
        rowsBehindLeftOutOnes();
        rowsBeforePalette();
        endBeforeRows();
        unknownOnes();
        whatMayStand();
        Check.end();
    }

    private static int[] dataOf(String letters) {
        switch (letters) {
            case "IHDR": return Reads.HEAD;
            case "gAMA": return new int[] {0, 0, 0, 1};
            case "sRGB": return new int[] {1};
            case "pHYs": return new int[] {0, 0, 0, 1, 0, 0, 0, 1, 1};
            case "PLTE": return new int[] {1, 2, 3};
            case "tRNS": return new int[] {9};
            case "IDAT": return new int[] {0, 0};
            default: return new int[] {};
        }
    }

    /** 1 by 1 of 8 bits, and then chunks with right data. */
    private static ChunkFile file(int kind, String... letters) {
        ChunkFile file = Reads.head(8, kind);
        for (String four : letters) {
            file.chunk(four, dataOf(four));
        }
        return file;
    }

    /** The last of the letters is the one out of order. */
    private static void dueOrder(int kind, String... letters) {
        ChunkFile before = Reads.head(8, kind);
        for (int k = 0; k < letters.length - 1; k++) {
            before.chunk(letters[k], dataOf(letters[k]));
        }
        String what = "kind " + kind + ": " + String.join(" ", letters);
        Reads.dueFault(what, file(kind, letters), Reads.ORDER, before.size());
        int[] wrong = new int[41];
        String last = letters[letters.length - 1];
        Reads.dueFault(what + " with wrong data", new ChunkFile().raw(before.values()).chunk(last, wrong),
                Reads.ORDER, before.size());
    }

    private static void dueRight(int kind, String... letters) {
        Reads.dueChunks("kind " + kind + ": " + String.join(" ", letters), file(kind, letters), 1 + letters.length);
    }

    private static void theFirstIsTheHead() {
        Check.sentence("5 ORDER: the first chunk (but for LEFT OUT ones) is not IHDR");
        String[] others = {"IDAT", "IEND", "PLTE", "gAMA", "sRGB", "pHYs", "tRNS", "abCd", "abCD", "AbCd"};
        for (String first : others) {
            ChunkFile alone = ChunkFile.begin().chunk(first, dataOf(first));
            Reads.dueFault(first, Reads.ended(alone.chunk("IHDR", Reads.HEAD)), Reads.ORDER, 8);
            ChunkFile behind = ChunkFile.begin().chunkWithWrongSum("abCd").chunk(first, dataOf(first));
            Reads.dueFault(first + " behind a left out one", behind, Reads.ORDER, 20);
        }
        PortableFiles x = Reads.dueChunks("left out ones before IHDR", Reads.ended(ChunkFile.begin()
                .chunkWithWrongSum("tRNS").chunkWithWrongSum("gAMA", 0, 0, 0, 1)
                .chunkWithWrongSum("abCd", new int[255]).chunk("IHDR", Reads.HEAD)), 3);
        Check.due("left out", x.found(9), 3);
    }

    private static void aLaterHead() {
        Check.sentence("or a later one is");
        dueOrder(0, "IHDR");
        dueOrder(0, "abCd", "IHDR");
        dueOrder(3, "PLTE", "IHDR");
        dueOrder(0, "IDAT", "IHDR");
        dueOrder(0, "IDAT", "abCd", "IHDR");
    }

    private static void behindRows() {
        Check.sentence("gAMA, sRGB, pHYs, PLTE or tRNS behind an IDAT");
        for (String four : ONCE) {
            dueOrder(3, "PLTE", "IDAT", four);
            dueOrder(3, "PLTE", "IDAT", "abCd", four);
        }
        for (String tag : new String[] {"gAMA", "sRGB", "pHYs"}) {
            dueOrder(0, "IDAT", tag);
            dueOrder(0, "IDAT", "IDAT", tag);
            dueRight(0, tag, "IDAT", "IEND");
        }
        dueOrder(2, "IDAT", "PLTE");
        dueOrder(6, "IDAT", "PLTE");
        Reads.dueFault("behind an empty IDAT", Reads.head(8, 0).chunk("IDAT").chunk("sRGB", 1), Reads.ORDER, 45);
    }

    private static void twice() {
        Check.sentence("or twice");
        for (String tag : new String[] {"gAMA", "sRGB", "pHYs"}) {
            dueOrder(0, tag, tag);
            dueOrder(0, tag, "abCd", tag);
            Reads.dueChunks(tag + " behind a left out one", Reads.ended(Reads.head(8, 0)
                    .chunkWithWrongSum(tag, dataOf(tag)).chunk(tag, dataOf(tag))), 4);
            Reads.dueChunks(tag + " before a left out one", Reads.ended(Reads.head(8, 0)
                    .chunk(tag, dataOf(tag)).chunkWithWrongSum(tag, dataOf(tag))), 4);
        }
        dueOrder(3, "PLTE", "PLTE");
        dueOrder(2, "PLTE", "PLTE");
        dueOrder(6, "PLTE", "abCd", "PLTE");
        dueOrder(3, "PLTE", "tRNS", "tRNS");
        dueOrder(3, "PLTE", "tRNS", "pHYs", "tRNS");
        dueOrder(3, "pHYs", "PLTE", "pHYs");
        dueRight(0, "abCd", "abCd", "IDAT", "IEND");
    }

    private static void tagsBehindPalette() {
        Check.sentence("gAMA or sRGB behind PLTE");
        for (int kind : new int[] {2, 3, 6}) {
            for (String tag : new String[] {"gAMA", "sRGB"}) {
                dueOrder(kind, "PLTE", tag);
                dueOrder(kind, "PLTE", "abCd", tag);
            }
        }
        dueOrder(3, "PLTE", "tRNS", "gAMA");
        dueRight(3, "PLTE", "pHYs", "IDAT", "IEND");
        dueRight(3, "PLTE", "tRNS", "pHYs", "IDAT", "IEND");
        dueRight(3, "sRGB", "gAMA", "PLTE", "IDAT", "IEND");
    }

    private static void alphasBeforePalette() {
        Check.sentence("tRNS before PLTE");
        dueOrder(3, "tRNS");
        dueOrder(3, "abCd", "tRNS");
        Reads.dueFault("a PLTE behind does not help",
                Reads.ended(file(3, "tRNS", "PLTE")), Reads.ORDER, 33);
        for (int kind : new int[] {0, 2, 4, 6}) {
            dueOrder(kind, "tRNS");
        }
        dueRight(3, "PLTE", "tRNS", "IDAT", "IEND");
        dueRight(3, "PLTE", "abCd", "tRNS", "IDAT", "IEND");
        Reads.dueChunks("left out before PLTE", Reads.ended(Reads.head(8, 3)
                .chunkWithWrongSum("tRNS", 9).chunk("PLTE", 1, 2, 3).chunk("tRNS", 9)), 5);
    }

    private static void palettesOfGrey() {
        Check.sentence("PLTE for KINDS 0, 4");
        dueOrder(0, "PLTE");
        dueOrder(4, "PLTE");
        dueOrder(0, "gAMA", "PLTE");
        dueOrder(4, "abCd", "PLTE");
        for (int bits : new int[] {1, 2, 4}) {
            Reads.dueFault(bits + " bits", Reads.head(bits, 0).chunk("PLTE", 1, 2, 3), Reads.ORDER, 33);
        }
        dueRight(3, "PLTE", "IDAT", "IEND");
        Reads.dueChunks("kind 2", Reads.head(8, 2).chunk("PLTE", 1, 2, 3).chunk("IDAT", 0, 1, 2, 3).chunk("IEND"), 4);
        Reads.dueChunks("kind 6", Reads.head(8, 6).chunk("PLTE", 1, 2, 3).chunk("IDAT", 0, 1, 2, 3, 4).chunk("IEND"), 4);
    }

    private static void rowsBehindOthers() {
        Check.sentence("an IDAT behind another chunk that came behind an IDAT");
        dueOrder(0, "IDAT", "abCd", "IDAT");
        dueOrder(0, "IDAT", "abCd", "abCD", "IDAT");
        dueOrder(0, "IDAT", "IDAT", "abCd", "IDAT");
        Reads.dueFault("empty ones, too", Reads.head(8, 0).chunk("IDAT").chunk("abCd").chunk("IDAT"), Reads.ORDER, 57);
        dueRight(0, "abCd", "IDAT", "abCd", "IEND");
        Reads.dueChunks("one behind the other", Reads.head(8, 0)
                .chunk("IDAT").chunk("IDAT", 0).chunk("IDAT").chunk("IDAT", 5).chunk("IDAT").chunk("IEND"), 7);
        Reads.dueChunks("others before all of them", Reads.head(8, 0).chunk("abCd").chunk("gAMA", 0, 0, 0, 1)
                .chunk("efGH").chunk("IDAT", 0).chunk("IDAT", 5).chunk("abCd").chunk("IEND"), 8);
    }

    private static void rowsBehindLeftOutOnes() {
        Check.sentence("(LEFT OUT ones, too)");
        Reads.dueFault("an extra", Reads.head(8, 0).chunk("IDAT", 0).chunkWithWrongSum("abCd").chunk("IDAT", 0),
                Reads.ORDER, 58);
        Reads.dueFault("a tag", Reads.head(8, 0).chunk("IDAT", 0).chunkWithWrongSum("gAMA", 0, 0, 0, 1).chunk("IDAT", 0),
                Reads.ORDER, 62);
        Reads.dueFault("an extra behind it", Reads.head(8, 0).chunk("IDAT", 0)
                .chunkWithWrongSum("abCd").chunk("abCd").chunk("IDAT", 0), Reads.ORDER, 70);
        PortableFiles x = Reads.dueChunks("before and behind all rows", Reads.head(8, 0).chunkWithWrongSum("abCd")
                .chunk("IDAT", 0).chunk("IDAT", 0).chunkWithWrongSum("abCd").chunk("IEND"), 4);
        Check.due("left out", x.found(9), 2);
    }

    private static void rowsBeforePalette() {
        Check.sentence("for KIND 3 an IDAT before PLTE");
        dueOrder(3, "IDAT");
        dueOrder(3, "abCd", "IDAT");
        Reads.dueFault("a PLTE behind does not help", file(3, "IDAT", "PLTE", "IEND"), Reads.ORDER, 33);
        for (int bits : new int[] {1, 2, 4}) {
            Reads.dueFault(bits + " bits", Reads.ended(Reads.head(bits, 3)), Reads.ORDER, 33);
        }
        Reads.dueChunks("kind 0", Reads.ended(Reads.head(8, 0)), 3);
        Reads.dueChunks("kind 2", Reads.head(8, 2).chunk("IDAT", 0, 1, 2, 3).chunk("IEND"), 3);
        Reads.dueChunks("kind 4", Reads.head(8, 4).chunk("IDAT", 0, 1, 2).chunk("IEND"), 3);
        Reads.dueChunks("kind 6", Reads.head(8, 6).chunk("IDAT", 0, 1, 2, 3, 4).chunk("IEND"), 3);
    }

    private static void endBeforeRows() {
        Check.sentence("IEND before an IDAT");
        for (int kind : new int[] {0, 2, 3, 4, 6}) {
            dueOrder(kind, "IEND");
            dueOrder(kind, "abCd", "IEND");
        }
        dueOrder(3, "PLTE", "IEND");
        Reads.dueFault("an empty IDAT is one", Reads.head(8, 0).chunk("IDAT").chunk("IEND"), Reads.DATA, 45);
    }

    private static void unknownOnes() {
        Check.sentence("6 UNKNOWN: another chunk whose first letter is great");
        for (String great : new String[] {"AbCd", "AAAA", "ZzZz", "ZZZZ", "IDAt", "IHDr", "PLTe", "IENd", "GAMA", "TRNS"}) {
            Reads.dueFault(great, Reads.ended(Reads.head(8, 0).chunk(great)), Reads.UNKNOWN, 33);
            Reads.dueFault(great + " behind IDAT", Reads.head(8, 0).chunk("IDAT", 0, 0).chunk(great, new int[200]),
                    Reads.UNKNOWN, 47);
        }
        for (String small : new String[] {"abCd", "aAAA", "zzZz", "zZZZ", "iDAT", "iHDR", "pLTE", "iEND"}) {
            PortableFiles x = Reads.dueChunks(small, Reads.ended(Reads.head(8, 0).chunk(small)), 4);
            Check.due(small + " is an extra", x.unknown(0, -1), ChunkFile.letters(small));
        }
    }

    private static void whatMayStand() {
        Check.sentence("ORDER");
        dueRight(3, "gAMA", "sRGB", "pHYs", "PLTE", "tRNS", "IDAT", "IEND");
        dueRight(3, "abCd", "pHYs", "abCd", "gAMA", "PLTE", "abCd", "tRNS", "abCd", "IDAT", "abCd", "abCd", "IEND");
        dueRight(0, "sRGB", "pHYs", "gAMA", "IDAT", "IEND");
    }
}
