/** Promises 2 to 7: head, colour, put, tag, extra, byteOf, and which calls make extras go. */
public final class PictureTest {
    private static final int SAFE = ChunkFile.letters("abCd");
    private static final int UNSAFE = ChunkFile.letters("abCD");

    public static void main(String[] args) {
        headTakesWhatMayBe();
        headRefusesWhatMayNotBe();
        headBeginsAnew();
        colourAddsEntries();
        colourRefuses();
        paletteHasAsManyEntriesAsItsBits();
        putAnswersWhatWas();
        putRefuses();
        putAsksForTheEntry();
        tagAnswersWhatWas();
        tagRefuses();
        extraAddsUpToSix();
        extraRefuses();
        byteOfAddsUpToForty();
        byteOfRefuses();
        changesTakeUnsafeExtras();
        callsThatChangeNothingLeaveExtras();
        goneExtrasLeaveTheOthersInOrder();
        Check.end();
    }

    private static PortableFiles with(int width, int height, int bits, int kind) {
        PortableFiles x = new PortableFiles();
        x.head(width, height, bits, kind);
        return x;
    }

    private static void headTakesWhatMayBe() {
        int[][] shapes = {
            {1, 0}, {2, 0}, {4, 0}, {8, 0}, {1, 3}, {2, 3}, {4, 3}, {8, 3}, {8, 2}, {8, 4}, {8, 6}
        };
        for (int[] s : shapes) {
            PortableFiles x = with(1, 12, s[0], s[1]);
            Check.due("bits", x.told(2), s[0]);
            Check.due("kind", x.told(1), s[1]);
            x.head(12, 1, s[0], s[1]);
            int channels = s[1] == 2 ? 3 : s[1] == 4 ? 2 : s[1] == 6 ? 4 : 1;
            if (s[1] != 3) {
                Check.due("last channel", x.put(11, 0, channels - 1, 1), 0);
            }
            Check.dueThrow("channel beyond", Check.INDEX, () -> x.put(11, 0, channels, 1));
        }
    }

    private static void headRefusesWhatMayNotBe() {
        PortableFiles x = with(3, 2, 4, 0);
        x.put(0, 0, 0, 9);
        x.extra(UNSAFE);
        int[][] wrong = {
            {0, 1, 8, 0}, {13, 1, 8, 0}, {1, 0, 8, 0}, {1, 13, 8, 0}, {-1, 1, 8, 0}, {1, -1, 8, 0},
            {1, 1, 0, 0}, {1, 1, 3, 0}, {1, 1, 5, 3}, {1, 1, 16, 0}, {1, 1, -8, 0}, {1, 1, 16, 2},
            {1, 1, 4, 2}, {1, 1, 1, 4}, {1, 1, 2, 6}, {1, 1, 8, 1}, {1, 1, 8, 5}, {1, 1, 8, 7},
            {1, 1, 8, -1}, {Integer.MIN_VALUE, 1, 8, 0}, {1, Integer.MAX_VALUE, 8, 0}
        };
        for (int[] w : wrong) {
            Check.dueThrow("head", Check.ARGUMENT, () -> x.head(w[0], w[1], w[2], w[3]));
        }
        Check.due("the picture stays", x.put(0, 0, 0, 9), 9);
        Check.due("its extras stay", x.told(3), 1);
    }

    private static void headBeginsAnew() {
        PortableFiles x = with(2, 2, 8, 3);
        x.colour(1, 2, 3, 4);
        x.colour(1, 2, 3, 4);
        x.put(1, 1, 0, 1);
        x.tag(0, 5);
        x.tag(1, 1);
        x.tag(2, 7);
        x.extra(SAFE);
        x.head(2, 2, 8, 3);
        Check.due("entries", x.told(6), 0);
        Check.due("extras", x.told(3), 0);
        Check.due("gamma", x.tag(0, -1), -1);
        Check.due("intent", x.tag(1, -1), -1);
        Check.due("samples a metre", x.tag(2, -1), -1);
        x.colour(0, 0, 0, 0);
        Check.due("sample", x.put(1, 1, 0, 0), 0);
    }

    private static void colourAddsEntries() {
        PortableFiles x = with(1, 1, 2, 3);
        Check.due("first", x.colour(0, 255, 0, 255), 1);
        Check.due("second", x.colour(255, 0, 255, 0), 2);
        Check.due("told(6)", x.told(6), 2);
    }

    private static void colourRefuses() {
        for (int kind : new int[] {0, 2, 4, 6}) {
            PortableFiles x = with(1, 1, 8, kind);
            Check.dueThrow("no palette", Check.STATE, () -> x.colour(-1, 0, 0, 0));
        }
        PortableFiles x = with(1, 1, 1, 3);
        for (int v : new int[] {-1, 256, Integer.MIN_VALUE, Integer.MAX_VALUE}) {
            Check.dueThrow("red", Check.ARGUMENT, () -> x.colour(v, 0, 0, 0));
            Check.dueThrow("green", Check.ARGUMENT, () -> x.colour(0, v, 0, 0));
            Check.dueThrow("blue", Check.ARGUMENT, () -> x.colour(0, 0, v, 0));
            Check.dueThrow("alpha", Check.ARGUMENT, () -> x.colour(0, 0, 0, v));
        }
        Check.due("entries", x.told(6), 0);
        x.colour(0, 0, 0, 0);
        x.colour(0, 0, 0, 0);
        x.extra(UNSAFE);
        Check.dueThrow("full, but a wrong part first", Check.ARGUMENT, () -> x.colour(0, 0, 0, 256));
        Check.dueThrow("full", Check.ROOM, () -> x.colour(0, 0, 0, 0));
        Check.due("entries", x.told(6), 2);
        Check.due("extras", x.told(3), 1);
    }

    private static void paletteHasAsManyEntriesAsItsBits() {
        int[][] most = {{1, 2}, {2, 4}, {4, 16}, {8, 64}};
        for (int[] m : most) {
            PortableFiles x = with(1, 1, m[0], 3);
            for (int k = 1; k <= m[1]; k++) {
                Check.due("colour", x.colour(k, k, k, 255), k);
            }
            Check.dueThrow("full", Check.ROOM, () -> x.colour(0, 0, 0, 0));
        }
    }

    private static void putAnswersWhatWas() {
        PortableFiles x = with(12, 12, 8, 6);
        Check.due("at first", x.put(11, 11, 3, 255), 0);
        Check.due("then", x.put(11, 11, 3, 7), 255);
        Check.due("then", x.put(11, 11, 3, 7), 7);
        Check.due("another channel", x.put(11, 11, 2, 1), 0);
        Check.due("another column", x.put(10, 11, 3, 1), 0);
        Check.due("another row", x.put(11, 10, 3, 1), 0);
        Check.due("another picture", againAt(x), 0);
    }

    private static int againAt(PortableFiles x) {
        x.head(12, 12, 8, 6);
        return x.put(11, 11, 3, 1);
    }

    private static void putRefuses() {
        PortableFiles x = with(3, 2, 8, 4);
        int[][] nowhere = {
            {3, 0, 0}, {-1, 0, 0}, {0, 2, 0}, {0, -1, 0}, {0, 0, 2}, {0, 0, -1},
            {Integer.MAX_VALUE, 0, 0}, {0, Integer.MIN_VALUE, 0}, {0, 0, Integer.MAX_VALUE}
        };
        for (int[] n : nowhere) {
            Check.dueThrow("no sample, and no number", Check.INDEX, () -> x.put(n[0], n[1], n[2], -1));
        }
        int[][] greatest = {{1, 1}, {2, 3}, {4, 15}, {8, 255}};
        for (int[] g : greatest) {
            x.head(1, 1, g[0], 0);
            Check.due("greatest", x.put(0, 0, 0, g[1]), 0);
            Check.dueThrow("greater", Check.ARGUMENT, () -> x.put(0, 0, 0, g[1] + 1));
            Check.dueThrow("below 0", Check.ARGUMENT, () -> x.put(0, 0, 0, -1));
            Check.dueThrow("far", Check.ARGUMENT, () -> x.put(0, 0, 0, Integer.MAX_VALUE));
            Check.due("as it was", x.put(0, 0, 0, 0), g[1]);
        }
    }

    private static void putAsksForTheEntry() {
        PortableFiles x = with(2, 1, 4, 3);
        Check.dueThrow("no entries", Check.ARGUMENT, () -> x.put(0, 0, 0, 0));
        x.colour(1, 1, 1, 1);
        Check.due("one entry", x.put(0, 0, 0, 0), 0);
        Check.dueThrow("second entry", Check.ARGUMENT, () -> x.put(0, 0, 0, 1));
        x.colour(1, 1, 1, 1);
        Check.due("second entry", x.put(0, 0, 0, 1), 0);
        Check.dueThrow("no such bits", Check.ARGUMENT, () -> x.put(0, 0, 0, 16));
        Check.dueThrow("one channel", Check.INDEX, () -> x.put(0, 0, 1, 0));
    }

    private static void tagAnswersWhatWas() {
        PortableFiles x = with(1, 1, 8, 0);
        int[] greatest = {Integer.MAX_VALUE, 3, Integer.MAX_VALUE};
        int[] least = {1, 0, 1};
        for (int what = 0; what < 3; what++) {
            Check.due("none", x.tag(what, greatest[what]), -1);
            Check.due("greatest", x.tag(what, least[what]), greatest[what]);
            Check.due("least", x.tag(what, PortableFiles.NONE), least[what]);
            Check.due("none again", x.tag(what, PortableFiles.NONE), -1);
        }
    }

    private static void tagRefuses() {
        PortableFiles x = with(1, 1, 8, 0);
        x.tag(0, 8);
        Check.dueThrow("what", Check.ARGUMENT, () -> x.tag(3, 1));
        Check.dueThrow("what", Check.ARGUMENT, () -> x.tag(-1, 1));
        Check.dueThrow("what for none", Check.ARGUMENT, () -> x.tag(3, -1));
        Check.dueThrow("gamma", Check.ARGUMENT, () -> x.tag(0, 0));
        Check.dueThrow("gamma", Check.ARGUMENT, () -> x.tag(0, -2));
        Check.dueThrow("intent", Check.ARGUMENT, () -> x.tag(1, 4));
        Check.dueThrow("intent", Check.ARGUMENT, () -> x.tag(1, -2));
        Check.dueThrow("samples a metre", Check.ARGUMENT, () -> x.tag(2, 0));
        Check.dueThrow("samples a metre", Check.ARGUMENT, () -> x.tag(2, Integer.MIN_VALUE));
        Check.due("as it was", x.tag(0, 8), 8);
    }

    private static void extraAddsUpToSix() {
        PortableFiles x = with(1, 1, 8, 0);
        for (int k = 1; k <= 6; k++) {
            Check.due("extra", x.extra(k % 2 == 0 ? SAFE : UNSAFE), k);
        }
        Check.dueThrow("wrong letters first", Check.ARGUMENT, () -> x.extra(0));
        Check.dueThrow("seventh", Check.ROOM, () -> x.extra(SAFE));
        Check.due("told(3)", x.told(3), 6);
    }

    private static void extraRefuses() {
        PortableFiles x = with(1, 1, 8, 0);
        String[] wrong = {
            "AbCd", "abcd", "ABCD", "IDAT", "gAMA", "sRGB", "pHYs", "tRNS", "ab1d", "@bCd", "`bCd",
            "{bCd", "a@Cd", "a[Cd", "a`Cd", "a{Cd", "ab@d", "ab[d", "abC@", "abC[", "abC`", "abC{",
            "\u0000\u0000\u0000\u0000"
        };
        for (String w : wrong) {
            Check.dueThrow("extra " + w, Check.ARGUMENT, () -> x.extra(ChunkFile.letters(w)));
        }
        Check.dueThrow("a first byte beyond", Check.ARGUMENT, () -> x.extra(SAFE | 0x80000000));
        Check.due("none came", x.told(3), 0);
        String[] right = {"aAAa", "zZZz", "zzZZ", "iHDR", "gAMa", "iDAT"};
        for (int k = 0; k < right.length; k++) {
            Check.due("extra " + right[k], x.extra(ChunkFile.letters(right[k])), k + 1);
        }
    }

    private static void byteOfAddsUpToForty() {
        PortableFiles x = with(1, 1, 8, 0);
        x.extra(SAFE);
        x.extra(SAFE);
        for (int i = 1; i <= 40; i++) {
            Check.due("byteOf", x.byteOf(1, i == 40 ? 255 : 0), i);
        }
        Check.dueThrow("no byte, though full", Check.ARGUMENT, () -> x.byteOf(1, 256));
        Check.dueThrow("full", Check.ROOM, () -> x.byteOf(1, 0));
        Check.due("the other", x.byteOf(0, 9), 1);
        Check.due("written", x.write(), 8 + 25 + 14 + 13 + 52 + 12);
    }

    private static void byteOfRefuses() {
        PortableFiles x = with(1, 1, 8, 0);
        Check.dueThrow("no extra", Check.INDEX, () -> x.byteOf(0, 256));
        x.extra(SAFE);
        Check.dueThrow("no second", Check.INDEX, () -> x.byteOf(1, 0));
        Check.dueThrow("below", Check.INDEX, () -> x.byteOf(-1, 0));
        Check.dueThrow("far", Check.INDEX, () -> x.byteOf(Integer.MAX_VALUE, 0));
        Check.dueThrow("no byte", Check.ARGUMENT, () -> x.byteOf(0, -1));
        Check.dueThrow("no byte", Check.ARGUMENT, () -> x.byteOf(0, 256));
        Check.due("first", x.byteOf(0, 0), 1);
    }

    private static void changesTakeUnsafeExtras() {
        PortableFiles x = with(2, 1, 4, 3);
        x.extra(UNSAFE);
        x.extra(SAFE);
        x.colour(1, 1, 1, 1);
        Check.due("an entry comes", x.told(3), 1);
        x.colour(1, 1, 1, 1);
        x.extra(UNSAFE);
        x.put(0, 0, 0, 1);
        Check.due("a sample becomes another", x.told(3), 1);
        x.extra(UNSAFE);
        Check.due("reduce", x.reduce(), 31);
        Check.due("bits become others", x.told(3), 1);
        x.head(1, 1, 8, 2);
        x.put(0, 0, 0, 1);
        x.put(0, 0, 1, 1);
        x.put(0, 0, 2, 1);
        x.extra(UNSAFE);
        Check.due("reduce", x.reduce(), 8);
        Check.due("the kind becomes another", x.told(3), 0);
    }

    private static void callsThatChangeNothingLeaveExtras() {
        PortableFiles x = with(2, 1, 1, 3);
        x.colour(1, 1, 1, 1);
        x.colour(2, 2, 2, 2);
        x.put(0, 0, 0, 1);
        x.extra(UNSAFE);
        x.put(0, 0, 0, 1);
        x.put(1, 0, 0, 0);
        x.tag(0, 7);
        x.tag(0, -1);
        x.byteOf(0, 1);
        x.extra(SAFE);
        x.reduce();
        x.write();
        x.pass(0, 2000);
        x.read();
        Check.dueThrow("put", Check.ARGUMENT, () -> x.put(0, 0, 0, 2));
        Check.dueThrow("colour", Check.ROOM, () -> x.colour(0, 0, 0, 0));
        Check.due("extras", x.told(3), 2);
        x.take();
        Check.due("extras", x.told(3), 2);
    }

    private static void goneExtrasLeaveTheOthersInOrder() {
        PortableFiles x = with(1, 1, 8, 0);
        String[] four = {"aaAA", "bbBb", "ccCC", "ddDd", "eeEe", "ffFF"};
        for (int k = 0; k < four.length; k++) {
            x.extra(ChunkFile.letters(four[k]));
            for (int i = 0; i <= k; i++) {
                x.byteOf(k, 10 * k + i);
            }
        }
        x.put(0, 0, 0, 255);
        Check.due("left", x.told(3), 3);
        x.byteOf(1, 99);
        x.extra(ChunkFile.letters("ggGG"));
        x.write();
        String due = ChunkFile.hex(ChunkFile.head(1, 1, 8, 0)
                .chunk("IDAT", 0, 255)
                .chunk("bbBb", 10, 11)
                .chunk("ddDd", 30, 31, 32, 33, 99)
                .chunk("eeEe", 40, 41, 42, 43, 44)
                .chunk("ggGG")
                .chunk("IEND")
                .values());
        Check.due("written", ChunkFile.hex(ChunkFile.written(x)), due);
    }
}
