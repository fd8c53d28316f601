/** Promise 8: reduce. */
public final class ReduceTest {
    public static void main(String[] args) {
        needsAPicture();
        coloursLoseFullAlphas();
        greyLosesFullAlphas();
        equalPartsBecomeGrey();
        allStepsInOneCall();
        greyTakesTheFewestBits();
        greyAsksEachSample();
        paletteTakesTheFewestBits();
        answersKindAndBits();
        nothingIsLost();
        nothingElseIsLessened();
        Check.end();
    }

    private static PortableFiles filled(int width, int height, int bits, int kind, int... channels) {
        PortableFiles x = new PortableFiles();
        x.head(width, height, bits, kind);
        for (int y = 0; y < height; y++) {
            for (int i = 0; i < width; i++) {
                for (int c = 0; c < channels.length; c++) {
                    x.put(i, y, c, channels[c]);
                }
            }
        }
        return x;
    }

    /** Corners and middle of a picture of 12 by 2 or 2 by 12: where one sample may be unlike all others. */
    private static final int[][] PLACES = {
        {12, 2, 0, 0}, {12, 2, 11, 0}, {12, 2, 0, 1}, {12, 2, 11, 1}, {12, 2, 5, 1},
        {2, 12, 1, 0}, {2, 12, 0, 11}, {2, 12, 1, 11}, {1, 1, 0, 0}
    };

    private static void needsAPicture() {
        Check.sentence("IllegalState: there is no picture");
        PortableFiles x = new PortableFiles();
        Check.dueThrow("reduce", Check.STATE, () -> x.reduce());
        x.head(1, 1, 8, 0);
        Check.due("reduce", x.reduce(), 1);
    }

    private static void coloursLoseFullAlphas() {
        Check.sentence("of KIND 6 with alphas of 255 alone KIND 2");
        for (int[] p : PLACES) {
            PortableFiles x = filled(p[0], p[1], 8, 6, 1, 2, 3, 255);
            x.put(p[2], p[3], 3, 254);
            Check.due("one alpha of 254", x.reduce(), 68);
            x.put(p[2], p[3], 3, 0);
            Check.due("one alpha of 0", x.reduce(), 68);
            x.put(p[2], p[3], 3, 255);
            Check.due("all alphas 255", x.reduce(), 28);
            Check.due("told(1)", x.told(1), 2);
            Check.dueThrow("no alpha any more", Check.INDEX, () -> x.put(p[2], p[3], 3, 255));
            Check.due("blue stays", x.put(p[2], p[3], 2, 3), 3);
        }
        Check.due("alphas at first", filled(1, 1, 8, 6).reduce(), 68);
        Check.due("equal parts, but an alpha of 254", filled(1, 1, 8, 6, 9, 9, 9, 254).reduce(), 68);
    }

    private static void greyLosesFullAlphas() {
        Check.sentence("of KIND 4 likewise KIND 0");
        for (int[] p : PLACES) {
            PortableFiles x = filled(p[0], p[1], 8, 4, 7, 255);
            x.put(p[2], p[3], 1, 254);
            Check.due("one alpha of 254", x.reduce(), 48);
            x.put(p[2], p[3], 1, 0);
            Check.due("one alpha of 0", x.reduce(), 48);
            x.put(p[2], p[3], 1, 255);
            Check.due("all alphas 255", x.reduce(), 8);
            Check.due("told(1)", x.told(1), 0);
            Check.dueThrow("no alpha any more", Check.INDEX, () -> x.put(p[2], p[3], 1, 255));
            Check.due("the grey stays", x.put(p[2], p[3], 0, 7), 7);
        }
        Check.due("alphas at first", filled(1, 1, 8, 4).reduce(), 48);
    }

    private static void equalPartsBecomeGrey() {
        Check.sentence("then of KIND 2 with three equal parts everywhere KIND 0");
        for (int[] p : PLACES) {
            for (int part = 0; part < 3; part++) {
                PortableFiles x = filled(p[0], p[1], 8, 2, 9, 9, 9);
                x.put(p[2], p[3], part, 8);
                Check.due("part " + part + " is unlike", x.reduce(), 28);
                x.put(p[2], p[3], part, 10);
                Check.due("part " + part + " is unlike", x.reduce(), 28);
                x.put(p[2], p[3], part, 9);
                Check.due("all are equal", x.reduce(), 8);
                Check.due("told(1)", x.told(1), 0);
                Check.due("the grey", x.put(p[2], p[3], 0, 9), 9);
                Check.dueThrow("one channel", Check.INDEX, () -> x.put(p[2], p[3], 1, 9));
            }
        }
        PortableFiles x = filled(2, 1, 8, 2, 9, 9, 9);
        x.put(1, 0, 0, 77);
        x.put(1, 0, 1, 77);
        x.put(1, 0, 2, 77);
        Check.due("equal in each place, though places are unlike", x.reduce(), 8);
    }

    private static void allStepsInOneCall() {
        Check.sentence("then of KIND 0 the fewest BITS");
        Check.due("6 to 2 to 0 with 1 bit", filled(3, 3, 8, 6, 255, 255, 255, 255).reduce(), 1);
        Check.due("6 to 2 to 0 with 2 bits", filled(3, 3, 8, 6, 170, 170, 170, 255).reduce(), 2);
        Check.due("6 to 2 to 0 with 4 bits", filled(3, 3, 8, 6, 17, 17, 17, 255).reduce(), 4);
        Check.due("6 to 2 to 0 with 8 bits", filled(3, 3, 8, 6, 16, 16, 16, 255).reduce(), 8);
        Check.due("2 to 0 with 1 bit", filled(3, 3, 8, 2).reduce(), 1);
        Check.due("4 to 0 with 2 bits", filled(3, 3, 8, 4, 85, 255).reduce(), 2);
        Check.due("not for 4 with an alpha", filled(3, 3, 8, 4, 85, 85).reduce(), 48);
        Check.due("not for 2 with colours", filled(3, 3, 8, 2, 255, 0, 255).reduce(), 28);
    }

    /** The document's words in whole numbers: v is k times (greatest before / greatest of these). */
    private static int fewestBits(int v, int before) {
        for (int bits : new int[] {1, 2, 4}) {
            for (int k = 0; k < 1 << bits && bits < before; k++) {
                if (v * ((1 << bits) - 1) == k * ((1 << before) - 1)) {
                    return bits;
                }
            }
        }
        return before;
    }

    private static void greyTakesTheFewestBits() {
        Check.sentence("the fewest BITS for which each sample is a whole number times the greatest one of the BITS"
                + " before over the greatest one of these");
        for (int before : new int[] {1, 2, 4, 8}) {
            for (int v = 0; v < 1 << before; v++) {
                int bits = fewestBits(v, before);
                PortableFiles x = filled(1, 1, before, 0, v);
                Check.due(v + " of " + before + " bits", x.reduce(), bits);
                int becomes = v * ((1 << bits) - 1) / ((1 << before) - 1);
                Check.due("what it becomes", x.put(0, 0, 0, 0), becomes);
            }
        }
    }

    private static void greyAsksEachSample() {
        Check.sentence("for which each sample is a whole number times");
        int[][] due = {
            {255, 0, 1}, {255, 85, 2}, {170, 85, 2}, {170, 17, 4}, {255, 17, 4}, {255, 254, 8}, {0, 1, 8}, {0, 128, 8}
        };
        for (int[] p : PLACES) {
            for (int[] d : due) {
                PortableFiles x = filled(p[0], p[1], 8, 0, d[0]);
                x.put(p[2], p[3], 0, d[1]);
                int bits = p[0] == 1 ? fewestBits(d[1], 8) : d[2];
                Check.due(d[1] + " among " + d[0], x.reduce(), bits);
                Check.due("told(2)", x.told(2), bits);
                Check.due("it", x.put(p[2], p[3], 0, 0), d[1] * ((1 << bits) - 1) / 255);
            }
        }
    }

    private static void paletteTakesTheFewestBits() {
        Check.sentence("of KIND 3 the fewest BITS for which there are not more entries than may be");
        for (int before : new int[] {1, 2, 4, 8}) {
            for (int entries = 0; entries <= Math.min(64, 1 << before); entries++) {
                PortableFiles x = new PortableFiles();
                x.head(2, 1, before, 3);
                for (int k = 0; k < entries; k++) {
                    x.colour(k, k, k, 255);
                }
                if (entries > 0) {
                    x.put(1, 0, 0, entries - 1);
                }
                int bits = entries <= 2 ? 1 : entries <= 4 ? 2 : entries <= 16 ? 4 : 8;
                Check.due(entries + " entries of " + before + " bits", x.reduce(), 30 + bits);
                Check.due("entries stay", x.told(6), entries);
                if (entries > 0) {
                    Check.due("samples stay", x.put(1, 0, 0, 0), entries - 1);
                }
            }
        }
    }

    private static void answersKindAndBits() {
        Check.sentence("10 times the KIND, and the BITS.");
        int[][] due = {{6, 68}, {4, 48}, {2, 28}, {0, 8}};
        for (int[] d : due) {
            PortableFiles x = filled(1, 1, 8, d[0], 1);
            Check.due("kind " + d[0], x.reduce(), d[1]);
            Check.due("again", x.reduce(), d[1]);
            Check.due("told(1), told(2)", 10 * x.told(1) + x.told(2), d[1]);
        }
    }

    /** A diagonal of four greys on full alphas: its lights are the same before and behind. */
    private static void nothingIsLost() {
        Check.sentence("LESSENED, without loss");
        PortableFiles x = filled(12, 12, 8, 4, 0, 255);
        for (int i = 0; i < 12; i++) {
            x.put(i, i, 0, 85 * (i % 4));
        }
        Check.due("reduce", x.reduce(), 2);
        x.write();
        x.pass(0, 2000);
        x.read();
        for (int y = 0; y < 12; y++) {
            for (int i = 0; i < 12; i++) {
                Check.due("at " + i + " " + y, 85 * x.at(i, y, 0), i == y ? 85 * (i % 4) : 0);
            }
        }
        PortableFiles z = filled(12, 12, 8, 2, 1, 2, 3);
        z.tag(0, 5);
        z.extra(ChunkFile.letters("abCd"));
        Check.due("reduce", z.reduce(), 28);
        Check.due("tags stay", z.tag(0, 5), 5);
        Check.due("safe extras stay", z.told(3), 1);
        Check.due("samples stay", z.put(11, 11, 2, 3), 3);
    }

    private static void nothingElseIsLessened() {
        Check.sentence("of KIND 3 the fewest BITS");
        PortableFiles x = new PortableFiles();
        x.head(1, 1, 8, 3);
        x.colour(9, 9, 9, 255);
        x.colour(9, 9, 9, 255);
        x.colour(9, 9, 9, 255);
        Check.due("entries that no sample has count, too", x.reduce(), 32);
        Check.due("equal entries stay", x.told(6), 3);
        Check.due("a grey palette stays", x.told(1), 3);
    }
}
