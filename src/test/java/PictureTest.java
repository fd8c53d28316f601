/** What a PICTURE and a PALETTE may be, and promises 2 to 4: head, colour, put. */
public final class PictureTest {
    private static final int[][] SHAPES = {
        {1, 0}, {2, 0}, {4, 0}, {8, 0}, {1, 3}, {2, 3}, {4, 3}, {8, 3}, {8, 2}, {8, 4}, {8, 6}
    };

    public static void main(String[] args) {
        sizes();
        kinds();
        channels();
        bits();
        samplesOfSoManyBits();
        samplesAtFirst();
        entriesAtMost();
        partsOfEntries();
        kindWithPalette();
        headBeginsAnew();
        headRefuses();
        colourCounts();
        colourNeedsItsKind();
        colourNeedsRoom();
        putAnswersWhatWas();
        putNeedsItsSample();
        putNeedsItsNumber();
        Check.end();
    }

    private static PortableFiles with(int width, int height, int bits, int kind) {
        PortableFiles x = new PortableFiles();
        x.head(width, height, bits, kind);
        return x;
    }

    private static int channelsOf(int kind) {
        return kind == 2 ? 3 : kind == 4 ? 2 : kind == 6 ? 4 : 1;
    }

    private static boolean shapeMayBe(int bits, int kind) {
        for (int[] s : SHAPES) {
            if (s[0] == bits && s[1] == kind) {
                return true;
            }
        }
        return false;
    }

    private static void dueSide(int side) {
        boolean taken = side >= 1 && side <= 12;
        PortableFiles x = new PortableFiles();
        Check.dueTaken("width " + side, taken, Check.ARGUMENT, () -> x.head(side, 1, 8, 0));
        Check.due("then the kind", x.told(1), taken ? 0 : PortableFiles.NONE);
        PortableFiles y = new PortableFiles();
        Check.dueTaken("height " + side, taken, Check.ARGUMENT, () -> y.head(1, side, 8, 0));
        Check.due("then the kind", y.told(1), taken ? 0 : PortableFiles.NONE);
        if (taken) {
            Check.due("the last column", x.put(side - 1, 0, 0, 1), 0);
            Check.dueThrow("a column more", Check.INDEX, () -> x.put(side, 0, 0, 1));
            Check.due("the last row", y.put(0, side - 1, 0, 1), 0);
            Check.dueThrow("a row more", Check.INDEX, () -> y.put(0, side, 0, 1));
        }
    }

    private static void sizes() {
        Check.sentence("A PICTURE has a width and a height of 1 .. 12");
        for (int side = -14; side <= 40; side++) {
            dueSide(side);
        }
        for (int side : Check.FAR) {
            dueSide(side);
        }
        PortableFiles x = with(12, 12, 8, 6);
        Check.due("the last sample of the greatest", x.put(11, 11, 3, 9), 0);
    }

    private static void dueShape(int bits, int kind) {
        PortableFiles x = new PortableFiles();
        boolean taken = shapeMayBe(bits, kind);
        Check.dueTaken(bits + " bits, kind " + kind, taken, Check.ARGUMENT, () -> x.head(1, 1, bits, kind));
        Check.due("then the kind", x.told(1), taken ? kind : PortableFiles.NONE);
        Check.due("then the bits", x.told(2), taken ? bits : PortableFiles.NONE);
    }

    private static void kinds() {
        Check.sentence("a KIND: 0 grey, 2 colours, 3 palette, 4 grey with alpha, 6 colours with alpha");
        for (int kind = -8; kind <= 264; kind++) {
            dueShape(8, kind);
        }
        for (int kind : Check.FAR) {
            dueShape(8, kind);
        }
    }

    private static void channels() {
        Check.sentence("with 1, 3, 1, 2, 4 CHANNELS");
        for (int[] s : SHAPES) {
            PortableFiles x = with(1, 1, s[0], s[1]);
            if (s[1] == 3) {
                x.colour(0, 0, 0, 0);
            }
            int most = channelsOf(s[1]);
            for (int channel = -1; channel <= 5; channel++) {
                int c = channel;
                Check.dueTaken("kind " + s[1] + ", channel " + c, c >= 0 && c < most, Check.INDEX,
                        () -> x.put(0, 0, c, 0));
            }
        }
    }

    private static void bits() {
        Check.sentence("and BITS: 1, 2, 4 or 8 for KINDS 0 and 3, 8 for others");
        for (int kind : new int[] {0, 2, 3, 4, 6}) {
            for (int bits = -8; bits <= 72; bits++) {
                dueShape(bits, kind);
            }
            for (int bits : Check.FAR) {
                dueShape(bits, kind);
            }
        }
    }

    private static void samplesOfSoManyBits() {
        Check.sentence("Samples are numbers of so many BITS");
        for (int[] s : SHAPES) {
            int greatest = (1 << s[0]) - 1;
            for (int c = 0; c < channelsOf(s[1]) && s[1] != 3; c++) {
                PortableFiles x = with(1, 1, s[0], s[1]);
                int channel = c;
                int was = 0;
                for (int v = 0; v <= greatest; v++) {
                    Check.due("put " + v, x.put(0, 0, channel, v), was);
                    was = v;
                }
                Check.dueThrow("one less than 0", Check.ARGUMENT, () -> x.put(0, 0, channel, -1));
                Check.dueThrow("one too great", Check.ARGUMENT, () -> x.put(0, 0, channel, greatest + 1));
                for (int far : Check.FAR) {
                    Check.dueThrow("far", Check.ARGUMENT, () -> x.put(0, 0, channel, far));
                }
                Check.due("as it was", x.put(0, 0, channel, 0), greatest);
            }
        }
    }

    private static void samplesAtFirst() {
        Check.sentence("at first 0");
        for (int kind : new int[] {0, 2, 4, 6}) {
            PortableFiles x = with(12, 12, 8, kind);
            for (int k = 0; k < 144 * channelsOf(kind); k++) {
                Check.due("at first", x.put(k % 12, k / 12 % 12, k / 144, 255), 0);
            }
            x.head(12, 12, 8, kind);
            for (int k = 0; k < 144 * channelsOf(kind); k++) {
                Check.due("after another picture", x.put(k % 12, k / 12 % 12, k / 144, 0), 0);
            }
        }
    }

    private static void entriesAtMost() {
        Check.sentence("A PALETTE has up to 2 to the BITS entries (64 at most)");
        for (int[] m : new int[][] {{1, 2}, {2, 4}, {4, 16}, {8, 64}}) {
            PortableFiles x = with(1, 1, m[0], 3);
            Check.due("at first", x.told(6), 0);
            for (int k = 1; k <= m[1]; k++) {
                Check.due("colour", x.colour(k, k, k, 255), k);
            }
            Check.dueThrow("one more", Check.ROOM, () -> x.colour(0, 0, 0, 0));
            Check.due("then", x.told(6), m[1]);
            Check.due("the last entry is one", x.put(0, 0, 0, m[1] - 1), 0);
            Check.dueThrow("none behind it", Check.ARGUMENT, () -> x.put(0, 0, 0, m[1]));
        }
    }

    private static void duePart(PortableFiles x, int which, int v) {
        int[] p = {7, 7, 7, 7};
        p[which] = v;
        Check.dueTaken("part " + which + " of " + v, v >= 0 && v <= 255, Check.ARGUMENT,
                () -> x.colour(p[0], p[1], p[2], p[3]));
    }

    private static void partsOfEntries() {
        Check.sentence("of red, green, blue and alpha, 0 .. 255 each");
        for (int which = 0; which < 4; which++) {
            PortableFiles x = with(1, 1, 8, 3);
            for (int v : new int[] {-256, -255, -1, 0, 1, 254, 255, 256, 257, 511, 512}) {
                duePart(x, which, v);
            }
            for (int v : Check.FAR) {
                duePart(x, which, v);
            }
            Check.due("entries", x.told(6), 4);
            x.write();
            x.pass(0, 2000);
            x.read();
            int[] due = {0, 1, 254, 255};
            for (int k = 0; k < 4; k++) {
                for (int what = 0; what < 4; what++) {
                    Check.due("entry " + k + ", part " + what, x.entry(k, what), what == which ? due[k] : 7);
                }
            }
        }
    }

    private static void kindWithPalette() {
        Check.sentence("KIND 3 has one");
        Check.due("kind 3", with(1, 1, 8, 3).colour(1, 2, 3, 4), 1);
        for (int kind : new int[] {0, 2, 4, 6}) {
            PortableFiles x = with(1, 1, 8, kind);
            Check.dueThrow("kind " + kind, Check.STATE, () -> x.colour(1, 2, 3, 4));
            Check.due("kind " + kind, x.told(6), 0);
        }
    }

    private static PortableFiles full() {
        PortableFiles x = with(2, 2, 8, 3);
        x.colour(1, 2, 3, 4);
        x.colour(1, 2, 3, 4);
        x.put(1, 1, 0, 1);
        x.tag(0, 5);
        x.tag(1, 0);
        x.tag(2, 7);
        x.extra(ChunkFile.letters("abCd"));
        x.extra(ChunkFile.letters("abCD"));
        x.byteOf(0, 9);
        return x;
    }

    private static void headBeginsAnew() {
        Check.sentence("A new PICTURE; no palette, TAGS, EXTRAS.");
        for (int[] s : SHAPES) {
            PortableFiles x = full();
            x.head(2, 2, s[0], s[1]);
            Check.due("kind", x.told(1), s[1]);
            Check.due("bits", x.told(2), s[0]);
            Check.due("entries", x.told(6), 0);
            Check.due("extras", x.told(3), 0);
            for (int what = 0; what < 3; what++) {
                Check.due("tag " + what, x.tag(what, -1), -1);
            }
            Check.dueThrow("no extra", Check.INDEX, () -> x.byteOf(0, 0));
            if (s[1] == 3) {
                Check.due("a first entry", x.colour(0, 0, 0, 0), 1);
            }
            Check.due("the sample", x.put(1, 1, 0, 0), 0);
            Check.due("an extra", x.extra(ChunkFile.letters("abCd")), 1);
            Check.due("has no bytes", x.byteOf(0, 1), 1);
        }
    }

    private static void headRefuses() {
        Check.sentence("IllegalArgument: sizes, BITS or KIND that may not be.");
        int[][] wrong = {
            {0, 1, 8, 0}, {13, 1, 8, 0}, {1, 0, 8, 0}, {1, 13, 8, 0}, {1, 1, 3, 0}, {1, 1, 16, 2},
            {1, 1, 4, 2}, {1, 1, 1, 4}, {1, 1, 2, 6}, {1, 1, 8, 1}, {1, 1, 8, 5}, {0, 0, 0, 1}
        };
        PortableFiles x = full();
        for (int[] w : wrong) {
            Check.dueThrow("head", Check.ARGUMENT, () -> x.head(w[0], w[1], w[2], w[3]));
        }
        Check.due("the picture stays", x.put(1, 1, 0, 1), 1);
        Check.due("its entries stay", x.told(6), 2);
        Check.due("its extras stay", x.told(3), 2);
        Check.due("its tags stay", x.tag(2, 7), 7);
    }

    private static void colourCounts() {
        Check.sentence("An entry more for the PALETTE: how many there are.");
        PortableFiles x = with(1, 1, 8, 3);
        for (int k = 1; k <= 64; k++) {
            Check.due("equal ones count, too", x.colour(5, 5, 5, 5), k);
            Check.due("told(6)", x.told(6), k);
        }
        x.head(1, 1, 2, 3);
        Check.due("from 1 on again", x.colour(5, 5, 5, 5), 1);
    }

    private static void colourNeedsItsKind() {
        Check.sentence("IllegalState: no picture, or its KIND is not 3.");
        PortableFiles none = new PortableFiles();
        Check.dueThrow("no picture", Check.STATE, () -> none.colour(0, 0, 0, 0));
        for (int kind : new int[] {0, 2, 4, 6}) {
            PortableFiles x = with(1, 1, 8, kind);
            Check.dueThrow("kind " + kind, Check.STATE, () -> x.colour(0, 0, 0, 0));
        }
        PortableFiles y = full();
        y.head(1, 1, 8, 0);
        Check.dueThrow("kind 0 after kind 3", Check.STATE, () -> y.colour(0, 0, 0, 0));
    }

    private static void colourNeedsRoom() {
        Check.sentence("UnsupportedOperation: there are as many as may be.");
        PortableFiles x = with(1, 1, 8, 3);
        x.colour(1, 1, 1, 1);
        x.colour(2, 2, 2, 2);
        Check.due("fewer bits", x.reduce(), 31);
        Check.dueThrow("fewer entries may be", Check.ROOM, () -> x.colour(3, 3, 3, 3));
        Check.due("entries", x.told(6), 2);
        x.write();
        x.pass(0, 2000);
        x.read();
        x.head(1, 1, 8, 3);
        Check.due("a new one has room", x.colour(3, 3, 3, 3), 1);
        x.take();
        Check.dueThrow("the one that was read has none", Check.ROOM, () -> x.colour(3, 3, 3, 3));
    }

    private static void putAnswersWhatWas() {
        Check.sentence("A sample of a channel becomes v: what it was.");
        PortableFiles x = with(12, 12, 8, 6);
        Check.due("at first", x.put(11, 11, 3, 255), 0);
        Check.due("then", x.put(11, 11, 3, 7), 255);
        Check.due("the same", x.put(11, 11, 3, 7), 7);
        Check.due("another channel", x.put(11, 11, 2, 1), 0);
        Check.due("another column", x.put(10, 11, 3, 1), 0);
        Check.due("another row", x.put(11, 10, 3, 1), 0);
        Check.due("the next row's first", x.put(0, 11, 0, 1), 0);
        Check.due("the first", x.put(0, 0, 0, 1), 0);
        Check.due("still", x.put(11, 11, 3, 0), 7);
    }

    private static void putNeedsItsSample() {
        Check.sentence("IndexOutOfBounds: there is no such sample, channel, entry, chunk or byte.");
        PortableFiles x = with(3, 2, 8, 4);
        int[][] nowhere = {{3, 0, 0}, {-1, 0, 0}, {0, 2, 0}, {0, -1, 0}, {0, 0, 2}, {0, 0, -1}, {2, 3, 0}, {3, 2, 2}};
        for (int[] n : nowhere) {
            Check.dueThrow("put", Check.INDEX, () -> x.put(n[0], n[1], n[2], 0));
        }
        for (int far : Check.FAR) {
            Check.dueThrow("column " + far, Check.INDEX, () -> x.put(far, 0, 0, 0));
            Check.dueThrow("row " + far, Check.INDEX, () -> x.put(0, far, 0, 0));
            Check.dueThrow("channel " + far, Check.INDEX, () -> x.put(0, 0, far, 0));
            Check.dueThrow("all " + far, Check.INDEX, () -> x.put(far, far, far, 0));
        }
    }

    private static void putNeedsItsNumber() {
        Check.sentence("IllegalArgument: it has not so many BITS, or no such entry.");
        PortableFiles x = with(2, 1, 4, 3);
        Check.dueThrow("no entries", Check.ARGUMENT, () -> x.put(0, 0, 0, 0));
        x.colour(1, 1, 1, 1);
        Check.due("one entry", x.put(0, 0, 0, 0), 0);
        Check.dueThrow("no second entry", Check.ARGUMENT, () -> x.put(0, 0, 0, 1));
        x.colour(1, 1, 1, 1);
        Check.due("a second entry", x.put(0, 0, 0, 1), 0);
        Check.dueThrow("no third entry", Check.ARGUMENT, () -> x.put(0, 0, 0, 2));
        Check.dueThrow("greatest of the bits", Check.ARGUMENT, () -> x.put(0, 0, 0, 15));
        Check.dueThrow("not so many bits", Check.ARGUMENT, () -> x.put(0, 0, 0, 16));
        Check.dueThrow("below 0", Check.ARGUMENT, () -> x.put(0, 0, 0, -1));
        Check.due("as it was", x.put(0, 0, 0, 0), 1);
        PortableFiles y = with(1, 1, 8, 0);
        y.put(0, 0, 0, 255);
        Check.due("fewer bits", y.reduce(), 1);
        Check.dueThrow("what may be no more", Check.ARGUMENT, () -> y.put(0, 0, 0, 2));
        Check.due("the greatest now", y.put(0, 0, 0, 0), 1);
    }
}
