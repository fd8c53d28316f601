/** Promise 8: reduce. */
public final class ReduceTest {
    public static void main(String[] args) {
        alphaGoesOnlyIfItIsFullEverywhere();
        coloursBecomeGreyOnlyIfEqualEverywhere();
        greyTakesTheFewestBits();
        greyBitsFollowTheBitsBefore();
        paletteTakesTheFewestBits();
        nothingElseIsLessened();
        samplesKeepTheirLight();
        Check.end();
    }

    private static PortableFiles filled(int width, int height, int bits, int kind, int... channels) {
        PortableFiles x = new PortableFiles();
        x.head(width, height, bits, kind);
        for (int y = 0; y < height; y++) {
            for (int i = 0; i < width; i++) {
                for (int c = 0; c < channels.length; c++) {
                    x.put(i, y, c, channels[c]);
                }
            }
        }
        return x;
    }

    private static void alphaGoesOnlyIfItIsFullEverywhere() {
        PortableFiles x = filled(12, 2, 8, 6, 1, 2, 3, 255);
        x.put(11, 1, 3, 254);
        Check.due("one alpha not full", x.reduce(), 68);
        x.put(11, 1, 3, 255);
        Check.due("all alphas full", x.reduce(), 28);
        Check.due("told(1)", x.told(1), 2);
        Check.dueThrow("no alpha", Check.INDEX, () -> x.put(0, 0, 3, 255));
        PortableFiles y = filled(2, 12, 8, 4, 7, 255);
        y.put(0, 11, 1, 0);
        Check.due("one alpha not full", y.reduce(), 48);
        y.put(0, 11, 1, 255);
        Check.due("all alphas full", y.reduce(), 8);
        Check.due("told(1)", y.told(1), 0);
        Check.due("the grey stays", y.put(1, 11, 0, 7), 7);
    }

    private static void coloursBecomeGreyOnlyIfEqualEverywhere() {
        PortableFiles x = filled(3, 3, 8, 2, 9, 9, 9);
        x.put(2, 2, 2, 8);
        Check.due("blue", x.reduce(), 28);
        x.put(2, 2, 2, 9);
        x.put(2, 2, 1, 8);
        Check.due("green", x.reduce(), 28);
        x.put(2, 2, 2, 8);
        Check.due("red", x.reduce(), 28);
        x.put(2, 2, 0, 8);
        Check.due("all equal", x.reduce(), 8);
        Check.due("grey", x.put(2, 2, 0, 8), 8);
        for (int[] first : new int[][] {{0, 0}, {0, 2}, {2, 0}}) {
            PortableFiles y = filled(3, 3, 8, 2, 9, 9, 9);
            y.put(first[0], first[1], 1, 8);
            Check.due("a corner", y.reduce(), 28);
            PortableFiles z = filled(3, 3, 8, 6, 9, 9, 9, 255);
            z.put(first[0], first[1], 3, 0);
            Check.due("a corner's alpha", z.reduce(), 68);
            PortableFiles g = filled(3, 3, 8, 0, 255);
            g.put(first[0], first[1], 0, 1);
            Check.due("a corner's grey", g.reduce(), 8);
        }
        Check.due("through both", filled(1, 1, 8, 6, 170, 170, 170, 255).reduce(), 2);
        Check.due("grey with alpha stays", filled(1, 1, 8, 6, 170, 170, 170, 0).reduce(), 68);
    }

    private static void greyTakesTheFewestBits() {
        Check.due("0", filled(2, 2, 8, 0, 0).reduce(), 1);
        Check.due("255", filled(2, 2, 8, 0, 255).reduce(), 1);
        Check.due("85", filled(2, 2, 8, 0, 85).reduce(), 2);
        Check.due("170", filled(2, 2, 8, 0, 170).reduce(), 2);
        Check.due("17", filled(2, 2, 8, 0, 17).reduce(), 4);
        Check.due("238", filled(2, 2, 8, 0, 238).reduce(), 4);
        Check.due("1", filled(2, 2, 8, 0, 1).reduce(), 8);
        Check.due("254", filled(2, 2, 8, 0, 254).reduce(), 8);
        PortableFiles x = filled(2, 2, 8, 0, 255);
        x.put(1, 1, 0, 85);
        x.put(0, 0, 0, 17);
        Check.due("mixed", x.reduce(), 4);
        Check.due("told(2)", x.told(2), 4);
        Check.dueThrow("greatest is 15", Check.ARGUMENT, () -> x.put(0, 0, 0, 16));
        Check.due("17 is 1", x.put(0, 0, 0, 15), 1);
        Check.due("85 is 5", x.put(1, 1, 0, 15), 5);
        Check.due("255 is 15", x.put(1, 0, 0, 15), 15);
        Check.due("lessened again", x.reduce(), 1);
    }

    private static void greyBitsFollowTheBitsBefore() {
        Check.due("4 bits: 15", filled(1, 1, 4, 0, 15).reduce(), 1);
        Check.due("4 bits: 5", filled(1, 1, 4, 0, 5).reduce(), 2);
        Check.due("4 bits: 10", filled(1, 1, 4, 0, 10).reduce(), 2);
        Check.due("4 bits: 3", filled(1, 1, 4, 0, 3).reduce(), 4);
        Check.due("2 bits: 3", filled(1, 1, 2, 0, 3).reduce(), 1);
        Check.due("2 bits: 1", filled(1, 1, 2, 0, 1).reduce(), 2);
        Check.due("1 bit", filled(1, 1, 1, 0, 1).reduce(), 1);
        PortableFiles x = filled(1, 1, 4, 0, 10);
        x.reduce();
        Check.due("10 of 15 is 2 of 3", x.put(0, 0, 0, 0), 2);
    }

    private static void paletteTakesTheFewestBits() {
        int[][] due = {{0, 31}, {1, 31}, {2, 31}, {3, 32}, {4, 32}, {5, 34}, {16, 34}, {17, 38}, {64, 38}};
        for (int[] d : due) {
            PortableFiles x = new PortableFiles();
            x.head(1, 1, 8, 3);
            for (int k = 0; k < d[0]; k++) {
                x.colour(k, k, k, 255);
            }
            if (d[0] > 0) {
                x.put(0, 0, 0, d[0] - 1);
            }
            Check.due(d[0] + " entries", x.reduce(), d[1]);
            Check.due("entries stay", x.told(6), d[0]);
            if (d[0] > 0) {
                Check.due("the sample stays", x.put(0, 0, 0, 0), d[0] - 1);
            }
        }
        PortableFiles x = new PortableFiles();
        x.head(1, 1, 4, 3);
        x.colour(0, 0, 0, 0);
        x.colour(0, 0, 0, 0);
        x.colour(0, 0, 0, 0);
        Check.due("from 4 bits", x.reduce(), 32);
        Check.due("a fourth", x.colour(0, 0, 0, 0), 4);
        Check.dueThrow("a fifth", Check.ROOM, () -> x.colour(0, 0, 0, 0));
    }

    private static void nothingElseIsLessened() {
        PortableFiles x = new PortableFiles();
        x.head(1, 1, 8, 3);
        x.colour(9, 9, 9, 255);
        x.colour(9, 9, 9, 255);
        x.reduce();
        Check.due("equal entries stay", x.told(6), 2);
        Check.due("a grey palette stays", x.told(1), 3);
    }

    private static void samplesKeepTheirLight() {
        PortableFiles x = new PortableFiles();
        x.head(12, 12, 8, 6);
        for (int i = 0; i < 12; i++) {
            for (int c = 0; c < 3; c++) {
                x.put(i, i, c, 85 * (i % 4));
            }
        }
        for (int y = 0; y < 12; y++) {
            for (int i = 0; i < 12; i++) {
                x.put(i, y, 3, 255);
            }
        }
        Check.due("reduce", x.reduce(), 2);
        x.write();
        x.pass(0, 2000);
        x.read();
        for (int y = 0; y < 12; y++) {
            for (int i = 0; i < 12; i++) {
                Check.due("at " + i + " " + y, x.at(i, y, 0), i == y ? i % 4 : 0);
            }
        }
    }
}
