/** What TAGS and EXTRAS may be, which changes make extras go, and promises 5 to 7: tag, extra, byteOf. */
public final class TagsAndExtrasTest {
    private static final int SAFE = ChunkFile.letters("abCd");
    private static final int UNSAFE = ChunkFile.letters("abCD");

    public static void main(String[] args) {
        gamma();
        intent();
        samplesAMetre();
        tagAnswersWhatWas();
        tagKnowsThree();
        extrasAtMost();
        bytesAtMost();
        lettersOfExtras();
        extraCounts();
        extraRefusesNames();
        byteOfCounts();
        byteOfNeedsItsExtra();
        byteOfNeedsAByte();
        anotherNumberTakesUnsafeExtras();
        anEntryTakesUnsafeExtras();
        anotherKindTakesUnsafeExtras();
        otherBitsTakeUnsafeExtras();
        callsThatChangeNothing();
        goneExtrasLeaveTheOthersInOrder();
        goneExtrasLeaveRoom();
        Check.end();
    }

    private static PortableFiles grey() {
        PortableFiles x = new PortableFiles();
        x.head(1, 1, 8, 0);
        return x;
    }

    /** Asks a tag for numbers round its least and greatest one, and for far ones. */
    private static void dueTag(int what, int least, int greatest) {
        int[] near = {-3, -2, 0, 1, 2, 3, 4, 5, 255, 256, 45455};
        PortableFiles x = grey();
        int was = PortableFiles.NONE;
        for (int k = 0; k < near.length + Check.FAR.length; k++) {
            int v = k < near.length ? near[k] : Check.FAR[k - near.length];
            boolean taken = v >= least && v <= greatest;
            Check.dueTaken("tag " + what + " of " + v, taken, Check.ARGUMENT, () -> x.tag(what, v));
            was = taken ? v : was;
            Check.due("then", x.tag(what, was), was);
        }
        Check.due("none", x.tag(what, PortableFiles.NONE), was);
        Check.due("the least", x.tag(what, least), PortableFiles.NONE);
        Check.due("the greatest", x.tag(what, greatest), least);
        Check.due("was the greatest", x.tag(what, least), greatest);
    }

    private static void gamma() {
        Check.sentence("TAGS: 0 the gamma, 1 .. 2147483647");
        dueTag(0, 1, 2147483647);
    }

    private static void intent() {
        Check.sentence("1 the intent, 0 .. 3");
        dueTag(1, 0, 3);
    }

    private static void samplesAMetre() {
        Check.sentence("2 how many samples a metre has, 1 .. 2147483647, across and down alike");
        dueTag(2, 1, 2147483647);
        PortableFiles x = grey();
        for (int v : new int[] {1, 256, 2147483647}) {
            x.tag(2, v);
            x.write();
            int across = x.byteAt(41) << 24 | x.byteAt(42) << 16 | x.byteAt(43) << 8 | x.byteAt(44);
            int down = x.byteAt(45) << 24 | x.byteAt(46) << 16 | x.byteAt(47) << 8 | x.byteAt(48);
            Check.due("across", across, v);
            Check.due("down", down, v);
        }
    }

    private static void tagAnswersWhatWas() {
        Check.sentence("A TAG becomes v, or is none (-1): what it was, NONE for none.");
        PortableFiles x = grey();
        int[] one = {1, 0, 1};
        int[] other = {2147483647, 3, 2147483647};
        for (int what = 0; what < 3; what++) {
            Check.due("none before", x.tag(what, PortableFiles.NONE), PortableFiles.NONE);
            Check.due("none", x.tag(what, one[what]), PortableFiles.NONE);
            Check.due("one", x.tag(what, other[what]), one[what]);
            Check.due("the other", x.tag(what, other[what]), other[what]);
            Check.due("the same again", x.tag(what, PortableFiles.NONE), other[what]);
            Check.due("none again", x.tag(what, one[what]), PortableFiles.NONE);
        }
        for (int what = 0; what < 3; what++) {
            Check.due("each its own", x.tag(what, PortableFiles.NONE), one[what]);
        }
    }

    private static void tagKnowsThree() {
        Check.sentence("IllegalArgument: another number is none that is told.");
        PortableFiles x = grey();
        for (int what : new int[] {-2, -1, 3, 4, 256}) {
            Check.dueThrow("tag " + what, Check.ARGUMENT, () -> x.tag(what, 1));
            Check.dueThrow("tag " + what + " none", Check.ARGUMENT, () -> x.tag(what, -1));
        }
        for (int what : Check.FAR) {
            Check.dueThrow("tag " + what, Check.ARGUMENT, () -> x.tag(what, 1));
        }
        Check.due("nothing came", x.write(), 59);
    }

    private static void extrasAtMost() {
        Check.sentence("EXTRAS are chunks of others, at most 6");
        PortableFiles x = grey();
        Check.due("at first", x.told(3), 0);
        for (int k = 1; k <= 6; k++) {
            Check.due("extra", x.extra(k % 2 == 0 ? SAFE : UNSAFE), k);
        }
        Check.dueThrow("the seventh", Check.ROOM, () -> x.extra(SAFE));
        Check.dueThrow("the seventh", Check.ROOM, () -> x.extra(UNSAFE));
        Check.due("told(3)", x.told(3), 6);
        Check.due("written", x.write(), 59 + 6 * 12);
    }

    private static void bytesAtMost() {
        Check.sentence("each of four letters and up to 40 bytes");
        PortableFiles x = grey();
        for (int k = 0; k < 6; k++) {
            x.extra(SAFE);
            int extra = k;
            for (int i = 1; i <= 40; i++) {
                Check.due("byteOf", x.byteOf(k, 10 * k + i), i);
            }
            Check.dueThrow("the 41st", Check.ROOM, () -> x.byteOf(extra, 0));
        }
        Check.due("written", x.write(), 59 + 6 * 52);
        x.pass(0, 2000);
        x.read();
        for (int k = 0; k < 6; k++) {
            Check.due("the first byte", x.unknown(k, 0), 10 * k + 1);
            Check.due("the last byte", x.unknown(k, 39), 10 * k + 40);
        }
    }

    /** Whether a letter may stand at a place: small ones first, great ones third, any others. */
    private static boolean mayStand(int place, int c) {
        boolean small = c >= 97 && c <= 122;
        boolean great = c >= 65 && c <= 90;
        return place == 0 ? small : place == 2 ? great : small || great;
    }

    private static void lettersOfExtras() {
        Check.sentence("letters A .. Z, a .. z; the first small, the third great");
        for (int place = 0; place < 4; place++) {
            for (int c = 0; c < 256; c++) {
                int shift = 24 - 8 * place;
                int four = SAFE & ~(255 << shift) | c << shift;
                PortableFiles x = grey();
                Check.dueTaken("letter " + c + " at " + place, mayStand(place, c), Check.ARGUMENT,
                        () -> x.extra(four));
            }
        }
        PortableFiles x = grey();
        for (int v : new int[] {0, 1, -1, Integer.MIN_VALUE, Integer.MAX_VALUE, SAFE | 0x80000000}) {
            Check.dueThrow("letters " + v, Check.ARGUMENT, () -> x.extra(v));
        }
        Check.due("none came", x.told(3), 0);
    }

    private static void extraCounts() {
        Check.sentence("An EXTRA with letters (the first one highest in the number) and no bytes: how many there are.");
        PortableFiles x = grey();
        Check.due("the first", x.extra(0x61624364), 1);
        Check.due("the same letters again", x.extra(0x61624364), 2);
        x.write();
        int[] due = {0, 0, 0, 0, 0x61, 0x62, 0x43, 0x64};
        for (int i = 0; i < 8; i++) {
            Check.due("no bytes, and its letters", x.byteAt(47 + i), due[i]);
        }
    }

    private static void extraRefusesNames() {
        Check.sentence("IllegalArgument: letters that may not be, or gAMA, sRGB, pHYs, tRNS.");
        for (String name : new String[] {"gAMA", "sRGB", "pHYs", "tRNS", "IHDR", "PLTE", "IDAT", "IEND", "ABCD"}) {
            PortableFiles x = grey();
            Check.dueThrow(name, Check.ARGUMENT, () -> x.extra(ChunkFile.letters(name)));
            Check.due("none came", x.told(3), 0);
        }
        String[] near = {
            "gAMa", "gaMA", "gAMB", "hAMA", "sRGb", "srGB", "pHYS", "phYs", "tRNs", "tRNT", "iHDR", "iDAT",
            "pLTE", "iEND"
        };
        for (String name : near) {
            Check.due(name, grey().extra(ChunkFile.letters(name)), 1);
        }
    }

    private static void byteOfCounts() {
        Check.sentence("A byte more for an EXTRA: how many it has.");
        PortableFiles x = grey();
        x.extra(SAFE);
        x.extra(UNSAFE);
        Check.due("the second's first", x.byteOf(1, 255), 1);
        Check.due("its second", x.byteOf(1, 0), 2);
        Check.due("the first's first", x.byteOf(0, 7), 1);
        Check.due("no change: both stay", x.told(3), 2);
        x.write();
        x.pass(0, 2000);
        x.read();
        Check.due("the second's first", x.unknown(1, 0), 255);
        Check.due("its second", x.unknown(1, 1), 0);
        Check.due("the first's first", x.unknown(0, 0), 7);
    }

    private static void byteOfNeedsItsExtra() {
        Check.sentence("IndexOutOfBounds: there is no such sample, channel, entry, chunk or byte.");
        PortableFiles x = grey();
        Check.dueThrow("none at all", Check.INDEX, () -> x.byteOf(0, 0));
        x.extra(SAFE);
        for (int k : new int[] {-2, -1, 1, 2, 6}) {
            Check.dueThrow("extra " + k, Check.INDEX, () -> x.byteOf(k, 0));
        }
        for (int k : Check.FAR) {
            Check.dueThrow("extra " + k, Check.INDEX, () -> x.byteOf(k, 0));
        }
        Check.due("still empty", x.byteOf(0, 0), 1);
    }

    private static void byteOfNeedsAByte() {
        Check.sentence("IllegalArgument: another number is none that is told.");
        PortableFiles x = grey();
        x.extra(SAFE);
        for (int b : new int[] {-256, -1, 256, 257}) {
            Check.dueThrow("byte " + b, Check.ARGUMENT, () -> x.byteOf(0, b));
        }
        for (int b : Check.FAR) {
            Check.dueThrow("byte " + b, Check.ARGUMENT, () -> x.byteOf(0, b));
        }
        Check.due("the least", x.byteOf(0, 0), 1);
        Check.due("the greatest", x.byteOf(0, 255), 2);
    }

    /** Gives the picture one extra of each sort; only the safe one stays if a call changes the picture. */
    private static void dueChange(String call, PortableFiles x, boolean changes, Check.Call run) {
        x.extra(UNSAFE);
        x.extra(SAFE);
        run.run();
        Check.due(call, x.told(3), changes ? 1 : 2);
        x.write();
        x.drop();
        x.pass(0, 2000);
        x.read();
        Check.due(call + ": the first that is left", x.unknown(0, -1), changes ? SAFE : UNSAFE);
    }

    private static void anotherNumberTakesUnsafeExtras() {
        Check.sentence("If the fourth is great, it goes when the picture changes (a sample becomes another number");
        PortableFiles x = grey();
        dueChange("another number", x, true, () -> x.put(0, 0, 0, 1));
        PortableFiles y = new PortableFiles();
        y.head(12, 12, 8, 6);
        dueChange("the last sample", y, true, () -> y.put(11, 11, 3, 255));
        PortableFiles z = grey();
        dueChange("back again, too", z, true, () -> {
            z.put(0, 0, 0, 1);
            z.put(0, 0, 0, 0);
        });
    }

    private static void anEntryTakesUnsafeExtras() {
        Check.sentence("an entry comes");
        PortableFiles x = new PortableFiles();
        x.head(1, 1, 8, 3);
        dueChange("the first", x, true, () -> x.colour(1, 2, 3, 4));
        PortableFiles y = new PortableFiles();
        y.head(1, 1, 1, 3);
        y.colour(1, 2, 3, 4);
        dueChange("an equal one", y, true, () -> y.colour(1, 2, 3, 4));
    }

    private static void anotherKindTakesUnsafeExtras() {
        Check.sentence("its KIND or BITS become others");
        PortableFiles x = new PortableFiles();
        x.head(1, 1, 8, 6);
        x.put(0, 0, 0, 1);
        x.put(0, 0, 3, 255);
        dueChange("6 to 2", x, true, () -> Check.due("reduce", x.reduce(), 28));
        PortableFiles y = new PortableFiles();
        y.head(1, 1, 8, 4);
        y.put(0, 0, 0, 1);
        y.put(0, 0, 1, 255);
        dueChange("4 to 0", y, true, () -> Check.due("reduce", y.reduce(), 8));
        PortableFiles z = new PortableFiles();
        z.head(1, 1, 8, 2);
        z.put(0, 0, 0, 1);
        z.put(0, 0, 1, 1);
        z.put(0, 0, 2, 1);
        dueChange("2 to 0", z, true, () -> Check.due("reduce", z.reduce(), 8));
    }

    private static void otherBitsTakeUnsafeExtras() {
        Check.sentence("its KIND or BITS become others");
        PortableFiles x = grey();
        dueChange("grey of 8 to 1, though all samples stay 0", x, true, () -> Check.due("reduce", x.reduce(), 1));
        PortableFiles y = new PortableFiles();
        y.head(1, 1, 2, 3);
        y.colour(1, 2, 3, 4);
        dueChange("palette of 2 to 1", y, true, () -> Check.due("reduce", y.reduce(), 31));
    }

    private static void callsThatChangeNothing() {
        Check.sentence("a call that leaves all as it is changes nothing");
        PortableFiles x = new PortableFiles();
        x.head(2, 1, 1, 3);
        x.colour(1, 1, 1, 1);
        x.colour(2, 2, 2, 2);
        x.put(0, 0, 0, 1);
        dueChange("calls that leave all as it is", x, false, () -> {
            x.put(0, 0, 0, 1);
            x.put(1, 0, 0, 0);
            x.tag(0, 7);
            x.tag(0, -1);
            x.byteOf(0, 1);
            Check.due("reduce", x.reduce(), 31);
            x.write();
            x.pass(0, 2000);
            x.alter(0, 1, true);
            x.read();
            x.drop();
            Check.dueThrow("put", Check.ARGUMENT, () -> x.put(0, 0, 0, 2));
            Check.dueThrow("colour", Check.ROOM, () -> x.colour(0, 0, 0, 0));
            Check.dueThrow("head", Check.ARGUMENT, () -> x.head(0, 0, 0, 0));
        });
        PortableFiles y = new PortableFiles();
        y.head(1, 1, 8, 6);
        dueChange("nothing to lessen", y, false, () -> Check.due("reduce", y.reduce(), 68));
    }

    private static void goneExtrasLeaveTheOthersInOrder() {
        Check.sentence("EXTRAS in order");
        PortableFiles x = grey();
        String[] four = {"aaAA", "bbBb", "ccCC", "ddDd", "eeEe", "ffFF"};
        for (int k = 0; k < four.length; k++) {
            x.extra(ChunkFile.letters(four[k]));
            for (int i = 0; i <= k; i++) {
                x.byteOf(k, 10 * k + i);
            }
        }
        x.put(0, 0, 0, 255);
        Check.due("left", x.told(3), 3);
        Check.due("the second has another place", x.byteOf(1, 99), 5);
        Check.due("a new one", x.extra(ChunkFile.letters("ggGG")), 4);
        x.write();
        String due = ChunkFile.hex(ChunkFile.head(1, 1, 8, 0)
                .chunk("IDAT", 0, 255)
                .chunk("bbBb", 10, 11)
                .chunk("ddDd", 30, 31, 32, 33, 99)
                .chunk("eeEe", 40, 41, 42, 43, 44)
                .chunk("ggGG")
                .chunk("IEND")
                .values());
        Check.due("written", ChunkFile.hex(ChunkFile.written(x)), due);
    }

    private static void goneExtrasLeaveRoom() {
        Check.sentence("UnsupportedOperation: there is no room.");
        PortableFiles x = grey();
        for (int k = 0; k < 6; k++) {
            x.extra(UNSAFE);
            x.byteOf(k, k);
        }
        Check.dueThrow("full", Check.ROOM, () -> x.extra(SAFE));
        x.put(0, 0, 0, 1);
        Check.due("all are gone", x.told(3), 0);
        Check.dueThrow("the first, too", Check.INDEX, () -> x.byteOf(0, 0));
        for (int k = 1; k <= 6; k++) {
            Check.due("room again", x.extra(SAFE), k);
            Check.due("without old bytes", x.byteOf(k - 1, 1), 1);
        }
        Check.dueThrow("full again", Check.ROOM, () -> x.extra(SAFE));
    }
}
