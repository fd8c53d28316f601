import java.util.Arrays;

/** Promise 14: what read answers, and the FAULTS of a chunk's frame: CUT, LENGTH, LETTERS and SUM. */
public final class ReadTest {
    public static void main(String[] args) {
        theEightBytes();
        fewerThanTwelveBytes();
        noneBehindTheEnd();
        lengths();
        lengthsWithoutSign();
        fewerBytesThanTheChunkTakes();
        otherLetters();
        smallThirdLetters();
        wrongSums();
        leftOutChunks();
        thePlaceOfTheChunk();
        theFirstInOrder();
        theFirstChunkFirst();
        chunksAreCounted();
        brokenReadings();
        readingTakesWhatWasFed();
        Check.end();
    }

    private static int[] whole() {
        return Reads.ended(Reads.head(8, 0)).values();
    }

    private static void theEightBytes() {
        Check.sentence("1 CUT: the eight bytes are not those");
        for (int i = 0; i < 8; i++) {
            for (int b : new int[] {0, 255, whole()[i] ^ 1, whole()[i] ^ 128}) {
                int[] other = whole();
                other[i] = b;
                Reads.dueFault("byte " + i + " is " + b, new ChunkFile().raw(other), Reads.CUT, 0);
            }
        }
        for (int n = 0; n < 8; n++) {
            Reads.dueFault(n + " bytes", new ChunkFile().raw(Arrays.copyOf(whole(), n)), Reads.CUT, 0);
        }
        Reads.dueFault("a chunk alone", new ChunkFile().chunk("IHDR", Reads.HEAD), Reads.CUT, 0);
    }

    private static void fewerThanTwelveBytes() {
        Check.sentence("or fewer than 12 bytes are left (for another chunk, if the last one was not IEND)");
        int[] all = whole();
        for (int left = 0; left < 12; left++) {
            int[] some = Arrays.copyOf(all, 8 + left);
            Reads.dueFault(left + " for the first", new ChunkFile().raw(some), Reads.CUT, 8);
            some = Arrays.copyOf(all, 33 + left);
            Reads.dueFault(left + " behind IHDR", new ChunkFile().raw(some), Reads.CUT, 33);
            some = Arrays.copyOf(all, 47 + left);
            Reads.dueFault(left + " behind IDAT", new ChunkFile().raw(some), Reads.CUT, 47);
        }
        Reads.dueChunks("12 for the last", new ChunkFile().raw(all), 3);
        Reads.dueFault("11 that would be too long", Reads.head(8, 0).raw(255, 255, 255, 255, 1, 1, 1, 1, 1, 1, 1),
                Reads.CUT, 33);
        Reads.dueFault("none behind a left out one", Reads.head(8, 0).chunkWithWrongSum("abCd"), Reads.CUT, 45);
    }

    private static void noneBehindTheEnd() {
        Check.sentence("What is behind IEND is not looked at.");
        Reads.dueChunks("nothing", new ChunkFile().raw(whole()), 3);
        Reads.dueChunks("one byte", new ChunkFile().raw(whole()).raw(1), 3);
        Reads.dueChunks("eleven bytes", new ChunkFile().raw(whole()).raw(new int[11]), 3);
        Reads.dueChunks("too long a chunk", new ChunkFile().raw(whole()).number(256).raw(new int[300]), 3);
        Reads.dueChunks("wrong letters", new ChunkFile().raw(whole()).chunk("1234"), 3);
        Reads.dueChunks("a wrong sum", new ChunkFile().raw(whole()).chunkWithWrongSum("IDAT"), 3);
        Reads.dueChunks("a second IEND", new ChunkFile().raw(whole()).chunk("IEND", 1), 3);
        Reads.dueChunks("an unknown one", new ChunkFile().raw(whole()).chunk("ABCD"), 3);
        PortableFiles x = Reads.dueChunks("extras", new ChunkFile().raw(whole()).chunk("abCd").chunkWithWrongSum("abCd"), 3);
        Check.due("no extra", x.found(8), 0);
        Check.due("none left out", x.found(9), 0);
    }

    private static void lengths() {
        Check.sentence("2 LENGTH: more than 255 bytes of data");
        Reads.dueFault("255 are not", Reads.ended(Reads.head(8, 0).chunk("abCd", new int[255])), Reads.VALUE, 33);
        Reads.dueFault("256 are", Reads.ended(Reads.head(8, 0).chunk("abCd", new int[256])), Reads.LENGTH, 33);
        Reads.dueFault("257 are", Reads.ended(Reads.head(8, 0).chunk("abCd", new int[257])), Reads.LENGTH, 33);
        Reads.dueFault("for a chunk that would be left out, too",
                Reads.ended(Reads.head(8, 0).chunkWithWrongSum("abCd", new int[256])), Reads.LENGTH, 33);
        PortableFiles x = Reads.dueChunks("255 that are left out",
                Reads.ended(Reads.head(8, 0).chunkWithWrongSum("abCd", new int[255])), 3);
        Check.due("left out", x.found(9), 1);
        Reads.dueChunks("rows of 255", ChunkFile.head(12, 12, 8, 6)
                .chunk("IDAT", new int[255]).chunk("IDAT", new int[255]).chunk("IDAT", new int[78]).chunk("IEND"), 5);
    }

    private static void lengthsWithoutSign() {
        Check.sentence("as a number without sign");
        long[] tooMany = {256, 65536, 1 << 24, 0x7fffffffL, 0x80000000L, 0x80000001L, 0xff000000L, 0xffffff00L, 0xffffffffL};
        for (long n : tooMany) {
            Reads.dueFault(n + " bytes", Reads.head(8, 0).number(n).raw('a', 'b', 'C', 'd', 0, 0, 0, 0), Reads.LENGTH, 33);
            Reads.dueFault(n + " bytes of the first", ChunkFile.begin().number(n).raw(1, 1, 1, 1, 0, 0, 0, 0),
                    Reads.LENGTH, 8);
        }
    }

    private static void fewerBytesThanTheChunkTakes() {
        Check.sentence("then 1 again: fewer bytes are left than that chunk takes");
        for (int n : new int[] {1, 2, 41, 254, 255}) {
            ChunkFile less = Reads.head(8, 0).number(n).raw('a', 'b', 'C', 'd').raw(new int[n + 3]);
            Reads.dueFault(n + " bytes and one too few", less, Reads.CUT, 33);
            Reads.dueFault(n + " bytes and none of them", Reads.head(8, 0).number(n).raw('1', 1, 1, 1, 0, 0, 0, 0),
                    Reads.CUT, 33);
            ChunkFile just = Reads.head(8, 0).number(n).raw('a', 'b', 'C', 'd').raw(new int[n + 4]);
            Reads.dueFault(n + " bytes and just enough: left out", just, Reads.CUT, 33 + 12 + n);
        }
        int[] all = whole();
        for (int n = 45; n < 47; n++) {
            Reads.dueFault(n + " bytes", new ChunkFile().raw(Arrays.copyOf(all, n)), Reads.CUT, 33);
        }
        for (int n = 20; n < 33; n++) {
            Reads.dueFault(n + " bytes", new ChunkFile().raw(Arrays.copyOf(all, n)), Reads.CUT, 8);
        }
    }

    /** A file with a chunk of four letters, one of them another. */
    private static ChunkFile withLetter(int place, int c, boolean rightSum) {
        StringBuilder four = new StringBuilder("abCd");
        four.setCharAt(place, (char) c);
        ChunkFile file = Reads.head(8, 0);
        return Reads.ended(rightSum ? file.chunk(four.toString()) : file.chunkWithWrongSum(four.toString()));
    }

    private static void otherLetters() {
        Check.sentence("3 LETTERS: others than A .. Z, a .. z");
        for (int place = 0; place < 4; place++) {
            for (int c = 0; c < 256; c++) {
                boolean great = c >= 65 && c <= 90;
                boolean small = c >= 97 && c <= 122;
                String what = "letter " + c + " at " + place;
                if (!great && !small) {
                    Reads.dueFault(what, withLetter(place, c, true), Reads.LETTERS, 33);
                    Reads.dueFault(what + ", sum wrong", withLetter(place, c, false), Reads.LETTERS, 33);
                } else if (place == 0 && great) {
                    Reads.dueFault(what, withLetter(place, c, true), Reads.UNKNOWN, 33);
                } else if (place != 2) {
                    PortableFiles x = Reads.dueChunks(what, withLetter(place, c, true), 4);
                    Check.due(what + ": an extra", x.found(8), 1);
                }
            }
        }
    }

    private static void smallThirdLetters() {
        Check.sentence("or the third is small");
        for (int c = 'a'; c <= 'z'; c++) {
            Reads.dueFault("third " + (char) c, withLetter(2, c, true), Reads.LETTERS, 33);
            Reads.dueFault("third " + (char) c + ", sum wrong", withLetter(2, c, false), Reads.LETTERS, 33);
        }
        for (int c = 'A'; c <= 'Z'; c++) {
            Reads.dueChunks("third " + (char) c, withLetter(2, c, true), 4);
        }
        for (String name : new String[] {"IHdR", "IDaT", "IEnD", "PLtE", "gAmA"}) {
            Reads.dueFault(name, Reads.ended(Reads.head(8, 0).chunk(name)), Reads.LETTERS, 33);
        }
    }

    private static void wrongSums() {
        Check.sentence("4 SUM: it is wrong, and the first letter is great");
        Reads.dueFault("IHDR", ChunkFile.begin().chunkWithWrongSum("IHDR", Reads.HEAD), Reads.SUM, 8);
        Reads.dueFault("IDAT", Reads.head(8, 0).chunkWithWrongSum("IDAT", 0, 0), Reads.SUM, 33);
        Reads.dueFault("IEND", Reads.head(8, 0).chunk("IDAT", 0, 0).chunkWithWrongSum("IEND"), Reads.SUM, 47);
        Reads.dueFault("PLTE", Reads.head(8, 3).chunkWithWrongSum("PLTE", 1, 2, 3), Reads.SUM, 33);
        Reads.dueFault("an unknown one", Reads.head(8, 0).chunkWithWrongSum("AbCd"), Reads.SUM, 33);
        Reads.dueFault("with the most bytes", Reads.head(8, 0).chunkWithWrongSum("ZZZZ", new int[255]), Reads.SUM, 33);
        for (int i = 43; i < 47; i++) {
            for (int bit = 0; bit < 8; bit++) {
                int[] other = whole();
                other[i] ^= 1 << bit;
                Reads.dueFault("bit " + bit + " of byte " + i, new ChunkFile().raw(other), Reads.SUM, 33);
            }
        }
        int[] other = whole();
        other[42] ^= 1;
        Reads.dueFault("another byte of data", new ChunkFile().raw(other), Reads.SUM, 33);
    }

    private static void leftOutChunks() {
        Check.sentence("a chunk whose first letter is small is LEFT OUT then");
        for (String name : new String[] {"gAMA", "sRGB", "pHYs", "tRNS", "abCd", "zzZZ"}) {
            for (int n : new int[] {0, 1, 41, 255}) {
                PortableFiles x = Reads.dueChunks(name + " of " + n,
                        Reads.ended(Reads.head(8, 0).chunkWithWrongSum(name, new int[n])), 3);
                Check.due("left out", x.found(9), 1);
                Check.due("extras", x.found(8), 0);
                Check.due("gamma", x.found(5), PortableFiles.NONE);
                Check.due("intent", x.found(6), PortableFiles.NONE);
                Check.due("samples a metre", x.found(7), PortableFiles.NONE);
            }
        }
        PortableFiles x = Reads.dueChunks("one left out does not come", Reads.ended(Reads.head(8, 0)
                .chunkWithWrongSum("gAMA", 0, 0, 0, 9).chunk("gAMA", 0, 0, 0, 8)), 4);
        Check.due("gamma", x.found(5), 8);
        PortableFiles y = Reads.dueChunks("alphas left out", Reads.ended(Reads.head(8, 3)
                .chunk("PLTE", 1, 2, 3).chunkWithWrongSum("tRNS", 7)), 4);
        Check.due("alpha", y.entry(0, 3), 255);
        ChunkFile many = Reads.head(8, 0);
        for (int k = 0; k < 100; k++) {
            many.chunkWithWrongSum("abCd");
        }
        PortableFiles z = Reads.dueChunks("a hundred", Reads.ended(many), 3);
        Check.due("left out", z.found(9), 100);
    }

    private static void thePlaceOfTheChunk() {
        Check.sentence("told with the place of its chunk's first byte (for the eight bytes: 0)");
        Reads.dueFault("the eight bytes", new ChunkFile().raw(1, 2, 3), Reads.CUT, 0);
        Reads.dueFault("the first chunk", ChunkFile.begin().chunk("1111"), Reads.LETTERS, 8);
        Reads.dueFault("the second", Reads.head(8, 0).chunk("1111"), Reads.LETTERS, 33);
        Reads.dueFault("behind a chunk of 40", Reads.head(8, 0).chunk("abCd", new int[40]).chunk("1111"),
                Reads.LETTERS, 85);
        Reads.dueFault("behind a left out one of 255",
                Reads.head(8, 0).chunkWithWrongSum("abCd", new int[255]).chunk("1111"), Reads.LETTERS, 300);
        ChunkFile most = Reads.head(8, 0);
        for (int k = 0; k < 7; k++) {
            most.chunkWithWrongSum("abCd", new int[255]);
        }
        most.chunkWithWrongSum("abCd", new int[2000 - most.size() - 12]);
        Check.due("bytes", most.size(), 2000);
        Reads.dueFault("behind 2,000 bytes", most, Reads.CUT, 2000);
    }

    private static void theFirstInOrder() {
        Check.sentence("the first one in this order for each chunk");
        Reads.dueFault("cut before length", Reads.head(8, 0).number(256).raw('1', 'b', 'C', 'd', 0, 0, 0), Reads.CUT, 33);
        Reads.dueFault("length before cut again", Reads.head(8, 0).number(256).raw('A', 'b', 'C', 'd', 0, 0, 0, 0),
                Reads.LENGTH, 33);
        Reads.dueFault("length before letters", Reads.head(8, 0).chunkWithWrongSum("1bCd", new int[256]), Reads.LENGTH, 33);
        Reads.dueFault("cut again before letters", Reads.head(8, 0).number(1).raw('1', 'b', 'C', 'd', 0, 0, 0, 0),
                Reads.CUT, 33);
        Reads.dueFault("letters before sum", Reads.head(8, 0).chunkWithWrongSum("ABcD"), Reads.LETTERS, 33);
        Reads.dueFault("letters before order", ChunkFile.begin().chunk("ABcD"), Reads.LETTERS, 8);
        Reads.dueFault("sum before order", ChunkFile.begin().chunkWithWrongSum("IDAT"), Reads.SUM, 8);
        Reads.dueFault("sum before unknown", Reads.head(8, 0).chunkWithWrongSum("ABCD"), Reads.SUM, 33);
        Reads.dueFault("sum before value", ChunkFile.begin().chunkWithWrongSum("IHDR"), Reads.SUM, 8);
        Reads.dueFault("sum before data", Reads.head(8, 0).chunk("IDAT", 9).chunkWithWrongSum("IEND"), Reads.SUM, 46);
        Reads.dueFault("order before unknown", ChunkFile.begin().chunk("AbCd"), Reads.ORDER, 8);
        Reads.dueFault("order before value", Reads.head(8, 0).chunk("PLTE"), Reads.ORDER, 33);
        Reads.dueFault("order before value", Reads.head(8, 0).chunk("IEND", 1), Reads.ORDER, 33);
        Reads.dueFault("unknown, whatever its data", Reads.head(8, 0).chunk("AbCd", new int[255]), Reads.UNKNOWN, 33);
        Reads.dueFault("value before data", Reads.head(8, 0).chunk("IDAT", 9).chunk("IEND", 0), Reads.VALUE, 46);
    }

    private static void theFirstChunkFirst() {
        Check.sentence("for each chunk");
        Reads.dueFault("a later fault of the first", ChunkFile.begin().chunk("IHDR").chunk("ab1d"), Reads.VALUE, 8);
        Reads.dueFault("an unknown one before a cut", Reads.head(8, 0).chunk("ABCD").raw(1), Reads.UNKNOWN, 33);
        Reads.dueFault("wrong data are told at the end alone",
                Reads.head(8, 0).chunk("IDAT", 1, 1, 1).chunk("AbCd").chunk("IEND"), Reads.UNKNOWN, 48);
        Reads.dueFault("the eight bytes before all", new ChunkFile().raw(137, 80, 78, 71, 13, 10, 26, 11).chunk("1111"),
                Reads.CUT, 0);
    }

    private static void chunksAreCounted() {
        Check.sentence("READING: how many chunks there are up to IEND (without LEFT OUT ones)");
        Reads.dueChunks("the fewest", Reads.ended(Reads.head(8, 0)), 3);
        PortableFiles x = Reads.dueChunks("all of them", Reads.head(8, 3)
                .chunk("gAMA", 0, 0, 0, 1).chunk("sRGB", 0).chunk("pHYs", 0, 0, 0, 1, 0, 0, 0, 1, 1)
                .chunk("PLTE", 1, 2, 3).chunk("tRNS", 0).chunkWithWrongSum("abCd").chunk("abCd")
                .chunk("IDAT", 0).chunk("IDAT", 0).chunk("abCd").chunkWithWrongSum("efGh").chunk("IEND"), 11);
        Check.due("again", x.read(), 11);
        Check.due("left out", x.found(9), 2);
        Check.due("extras", x.found(8), 2);
        ChunkFile most = Reads.head(8, 0);
        while (most.size() + 12 + 14 + 12 <= 2000) {
            most.chunk("IDAT");
        }
        int empty = (most.size() - 33) / 12;
        Reads.dueChunks("the most", Reads.ended(most), empty + 3);
    }

    private static void brokenReadings() {
        Check.sentence("-1 less the place at which it is BROKEN (nothing is READ then)");
        PortableFiles x = Reads.dueChunks("right", Reads.ended(Reads.head(8, 0).chunk("abCd", 1)), 4);
        Check.due("width", x.found(0), 1);
        x.alter(0, 0, false);
        Check.due("not read yet", x.found(0), 1);
        Check.due("place 0", x.read(), -1);
        Check.dueThrow("at", Check.STATE, () -> x.at(0, 0, 0));
        Check.dueThrow("found", Check.STATE, () -> x.found(0));
        Check.dueThrow("found another", Check.STATE, () -> x.found(99));
        Check.dueThrow("entry", Check.STATE, () -> x.entry(0, 0));
        Check.dueThrow("unknown", Check.STATE, () -> x.unknown(0, -1));
        Check.dueThrow("take", Check.STATE, () -> x.take());
        x.alter(0, 137, false);
        Check.due("right again", x.read(), 4);
        Check.due("told(0)", x.told(0), 0);
        Check.due("extras do not come twice", x.found(8), 1);
        x.alter(54, 1, true);
        Check.due("broken at IEND, when all else was taken in", x.read(), -61);
        Check.dueThrow("found", Check.STATE, () -> x.found(0));
    }

    private static void readingTakesWhatWasFed() {
        Check.sentence("READING takes the bytes that were fed.");
        PortableFiles x = new PortableFiles();
        x.head(2, 1, 8, 0);
        x.write();
        Check.due("nothing was fed", x.read(), -1);
        x.pass(0, 100);
        Check.due("then", x.read(), 3);
        Check.due("again", x.read(), 3);
        Check.due("they stay fed", x.told(5), 60);
        Check.due("the picture stays", x.told(1), 0);
        x.pass(0, 100);
        Check.due("a second file behind it is not looked at", x.read(), 3);
        Check.due("width", x.found(0), 2);
        x.drop();
        Reads.ended(Reads.head(4, 0)).feedTo(x);
        Check.due("another file", x.read(), 3);
        Check.due("its width", x.found(0), 1);
        Check.due("its bits", x.found(2), 4);
    }
}
