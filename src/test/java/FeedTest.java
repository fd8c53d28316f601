/** Promises 11, 12, 13 and 21: feed, pass, alter and drop. */
public final class FeedTest {
    public static void main(String[] args) {
        feedCounts();
        feedNeedsAByte();
        feedNeedsRoom();
        passAnswersHowMany();
        passNeedsAByteToBeginWith();
        passNeedsANumber();
        passNeedsRoom();
        alterAnswersWhatWas();
        alterNeedsItsByte();
        alterNeedsAByte();
        mendsMakeTheSumRight();
        mendsEndWithTheChunk();
        mendsTouchNothingElse();
        mendsNeedWholeChunks();
        mendsNeedFewBytes();
        mendsGoByTheNumbersThen();
        mendsNotInTheBeginning();
        dropLeavesNoBytes();
        dropLeavesAllElse();
        Check.end();
    }

    /** A picture of 1 by 1 in kind 0: IHDR at 8, IDAT at 33 with its sample at 42, IEND at 47, 59 bytes. */
    private static PortableFiles small() {
        PortableFiles x = new PortableFiles();
        x.head(1, 1, 8, 0);
        x.write();
        return x;
    }

    private static PortableFiles fed() {
        PortableFiles x = small();
        x.pass(0, 59);
        return x;
    }

    /** Feeds bytes 0 up to so many, by a few calls. */
    private static PortableFiles fedSoMany(int many) {
        PortableFiles x = new PortableFiles();
        x.head(12, 12, 8, 6);
        int n = x.write();
        for (int left = many; left > 0; left -= n) {
            x.pass(0, Math.min(n, left));
        }
        Check.due("fed", x.told(5), many);
        return x;
    }

    private static void feedCounts() {
        Check.sentence("One byte more is fed: how many were.");
        PortableFiles x = new PortableFiles();
        Check.due("none", x.told(5), 0);
        for (int b = 0; b < 256; b++) {
            Check.due("feed", x.feed(b), b + 1);
        }
        Check.due("told(5)", x.told(5), 256);
        Check.due("the first", x.alter(0, 9, false), 0);
        Check.due("the last", x.alter(255, 9, false), 255);
        Check.due("behind what was passed", fed().feed(1), 60);
    }

    private static void feedNeedsAByte() {
        Check.sentence("IllegalArgument: another number is none that is told.");
        PortableFiles x = new PortableFiles();
        for (int b : new int[] {-256, -1, 256, 257, 511}) {
            Check.dueThrow("feed " + b, Check.ARGUMENT, () -> x.feed(b));
        }
        for (int b : Check.FAR) {
            Check.dueThrow("feed " + b, Check.ARGUMENT, () -> x.feed(b));
        }
        Check.due("none was fed", x.told(5), 0);
    }

    private static void feedNeedsRoom() {
        Check.sentence("UnsupportedOperation: 2,000 were.");
        PortableFiles x = fedSoMany(1998);
        Check.due("one less", x.feed(1), 1999);
        Check.due("the last", x.feed(2), 2000);
        Check.dueThrow("one more", Check.ROOM, () -> x.feed(3));
        Check.dueThrow("and again", Check.ROOM, () -> x.feed(3));
        Check.due("told(5)", x.told(5), 2000);
        Check.due("the last stays", x.alter(1999, 4, true), 2);
        Check.due("one less stays", x.alter(1998, 4, true), 1);
        Check.due("what is behind IEND is not looked at", x.read(), 12);
    }

    private static void passAnswersHowMany() {
        Check.sentence("Bytes that were WRITTEN are fed, from one on, n or as many as there are: how many.");
        PortableFiles x = small();
        Check.due("none", x.pass(0, 0), 0);
        Check.due("told(5)", x.told(5), 0);
        Check.due("one", x.pass(0, 1), 1);
        Check.due("some", x.pass(1, 7), 7);
        Check.due("told(5)", x.told(5), 8);
        Check.due("none from the last", x.pass(58, 0), 0);
        Check.due("one less than there are", x.pass(8, 50), 50);
        Check.due("the last", x.pass(58, 1), 1);
        Check.due("told(5)", x.told(5), 59);
        Check.due("it is the file", x.read(), 3);
        Check.due("as many as there are", x.pass(0, 59), 59);
        Check.due("one more than there are", x.pass(0, 60), 59);
        Check.due("many more", x.pass(57, 2000), 2);
        Check.due("all that a number can be", x.pass(58, Integer.MAX_VALUE), 1);
        Check.due("where from and n would wrap around", x.pass(1, Integer.MAX_VALUE), 58);
        Check.due("told(5)", x.told(5), 59 * 3 + 2 + 1 + 58);
        Check.due("the last byte", x.alter(x.told(5) - 1, 0, false), 0x82);
        Check.due("the first of that pass", x.alter(x.told(5) - 58, 0, false), 80);
    }

    private static void passNeedsAByteToBeginWith() {
        Check.sentence("IndexOutOfBounds: there is no such sample, channel, entry, chunk or byte.");
        PortableFiles none = new PortableFiles();
        Check.dueThrow("nothing was written", Check.INDEX, () -> none.pass(0, 0));
        PortableFiles x = small();
        for (int from : new int[] {-2, -1, 59, 60, 2000}) {
            Check.dueThrow("from " + from, Check.INDEX, () -> x.pass(from, 1));
            Check.dueThrow("from " + from + " none", Check.INDEX, () -> x.pass(from, 0));
        }
        for (int from : Check.FAR) {
            Check.dueThrow("from " + from, Check.INDEX, () -> x.pass(from, 1));
            Check.dueThrow("from " + from, Check.INDEX, () -> x.pass(from, Integer.MAX_VALUE));
        }
        Check.due("told(5)", x.told(5), 0);
    }

    private static void passNeedsANumber() {
        Check.sentence("IllegalArgument: n is below 0.");
        PortableFiles x = small();
        for (int n : new int[] {-1, -2, -59, -2000, Integer.MIN_VALUE, Integer.MIN_VALUE + 1}) {
            Check.dueThrow("n " + n, Check.ARGUMENT, () -> x.pass(0, n));
            Check.dueThrow("n " + n, Check.ARGUMENT, () -> x.pass(58, n));
        }
        Check.due("told(5)", x.told(5), 0);
    }

    private static void passNeedsRoom() {
        Check.sentence("UnsupportedOperation: there would be more than 2,000.");
        PortableFiles x = fedSoMany(1900);
        Check.dueThrow("one too many", Check.ROOM, () -> x.pass(0, 101));
        Check.dueThrow("all", Check.ROOM, () -> x.pass(0, 2000));
        Check.dueThrow("all that a number can be", Check.ROOM, () -> x.pass(0, Integer.MAX_VALUE));
        Check.due("nothing was fed", x.told(5), 1900);
        int n = x.told(4);
        Check.dueThrow("as many as there are are one too many", Check.ROOM, () -> x.pass(n - 101, 2000));
        Check.due("as many as there are have room", x.pass(n - 99, Integer.MAX_VALUE), 99);
        Check.due("told(5)", x.told(5), 1999);
        Check.dueThrow("two for one", Check.ROOM, () -> x.pass(0, 2));
        Check.due("the last one", x.pass(0, 1), 1);
        Check.due("told(5)", x.told(5), 2000);
        Check.dueThrow("one for none", Check.ROOM, () -> x.pass(0, 1));
        Check.due("none for none", x.pass(0, 0), 0);
        Check.due("told(5)", x.told(5), 2000);
        PortableFiles y = fedSoMany(1900);
        Check.due("exactly 2,000", y.pass(0, 100), 100);
        Check.due("told(5)", y.told(5), 2000);
    }

    private static void alterAnswersWhatWas() {
        Check.sentence("A byte that was fed becomes another one");
        PortableFiles x = fed();
        Check.due("alter", x.alter(42, 200, false), 0);
        Check.due("the same again", x.alter(42, 200, false), 200);
        Check.due("its sum is wrong", x.read(), -34);
        Check.due("alter", x.alter(42, 0, false), 200);
        Check.due("its sum is right again", x.read(), 3);
        Check.due("the first", x.alter(0, 255, false), 137);
        Check.due("the last", x.alter(58, 0, false), 0x82);
        Check.due("with mends, too", x.alter(42, 1, true), 0);
        Check.due("what was written stays", x.byteAt(42), 0);
        Check.due("how many were fed stays", x.told(5), 59);
    }

    private static void alterNeedsItsByte() {
        Check.sentence("IndexOutOfBounds: there is no such sample, channel, entry, chunk or byte.");
        PortableFiles none = small();
        Check.dueThrow("nothing was fed", Check.INDEX, () -> none.alter(0, 0, true));
        PortableFiles x = fed();
        for (int i : new int[] {-2, -1, 59, 60, 2000}) {
            Check.dueThrow("byte " + i, Check.INDEX, () -> x.alter(i, 0, false));
            Check.dueThrow("byte " + i, Check.INDEX, () -> x.alter(i, 0, true));
        }
        for (int i : Check.FAR) {
            Check.dueThrow("byte " + i, Check.INDEX, () -> x.alter(i, 0, true));
        }
        Check.due("as it was", x.read(), 3);
        x.drop();
        x.feed(1);
        Check.dueThrow("one that was dropped", Check.INDEX, () -> x.alter(1, 0, true));
    }

    private static void alterNeedsAByte() {
        Check.sentence("IllegalArgument: another number is none that is told.");
        PortableFiles x = fed();
        for (int b : new int[] {-256, -1, 256, 257}) {
            Check.dueThrow("becomes " + b, Check.ARGUMENT, () -> x.alter(42, b, true));
            Check.dueThrow("becomes " + b, Check.ARGUMENT, () -> x.alter(42, b, false));
        }
        for (int b : Check.FAR) {
            Check.dueThrow("becomes " + b, Check.ARGUMENT, () -> x.alter(42, b, true));
        }
        Check.due("as it was", x.read(), 3);
        Check.due("the greatest", x.alter(42, 255, true), 0);
        Check.due("the least", x.alter(42, 0, true), 255);
    }

    private static void mendsMakeTheSumRight() {
        Check.sentence("with mends the SUM of the chunk it is in");
        PortableFiles x = fed();
        x.alter(42, 200, true);
        Check.due("data", x.read(), 3);
        Check.due("the sample", x.at(0, 0, 0), 200);
        for (int i = 43; i < 47; i++) {
            x.alter(i, 1, false);
        }
        Check.due("a wrong sum", x.read(), -34);
        x.alter(42, 200, true);
        Check.due("a byte that stays the same mends, too", x.read(), 3);
        for (int i = 43; i < 47; i++) {
            x.alter(i, 1, true);
            Check.due("a byte of the sum itself", x.read(), 3);
        }
        x.alter(37, 'i', true);
        Check.due("a letter: an extra and no IDAT", x.read(), -48);
        Check.due("order, for its sum is right", x.told(0), 5);
        x.alter(37, 'I', true);
        Check.due("back", x.read(), 3);
        x.alter(19, 2, true);
        Check.due("the first chunk: its width", x.read(), -48);
        Check.due("its sum is right: the data are too few", x.told(0), 8);
        x.alter(19, 1, true);
        x.alter(58, 0, true);
        Check.due("the last byte of the last chunk", x.read(), 3);
    }

    private static void mendsEndWithTheChunk() {
        Check.sentence("the SUM of the chunk it is in");
        int[] first = {8, 33, 47};
        int[] last = {32, 46, 58};
        for (int k = 0; k < 3; k++) {
            for (int i : new int[] {first[k], last[k]}) {
                PortableFiles x = fed();
                for (int sum : last) {
                    x.alter(sum - 3, x.byteAt(sum - 3) ^ 1, false);
                }
                x.alter(i, x.byteAt(i), true);
                for (int j = 0; j < 3; j++) {
                    int due = x.byteAt(last[j] - 3) ^ (j == k ? 0 : 1);
                    Check.due("byte " + i + " and the sum of chunk " + j, x.alter(last[j] - 3, 0, false), due);
                }
            }
        }
    }

    private static void mendsTouchNothingElse() {
        Check.sentence("is made right: what it was");
        PortableFiles x = fed();
        Check.due("alter", x.alter(42, 7, true), 0);
        for (int i = 0; i < 59; i++) {
            if (i < 42 || i > 46) {
                Check.due("byte " + i + " stays", x.alter(i, x.byteAt(i), false), x.byteAt(i));
            }
        }
        Check.due("the byte", x.alter(42, 7, false), 7);
        PortableFiles y = fed();
        y.alter(57, 1, false);
        y.alter(42, 7, true);
        Check.due("another chunk's wrong sum stays wrong", y.read(), -48);
        Check.due("sum", y.told(0), 4);
    }

    private static void mendsNeedWholeChunks() {
        Check.sentence("if from the ninth byte on there are whole chunks, up to that one");
        PortableFiles x = small();
        x.pass(0, 46);
        x.alter(42, 5, true);
        x.pass(46, 13);
        Check.due("without its last byte nothing is mended", x.read(), -34);
        x.alter(42, 5, true);
        Check.due("with it, it is", x.read(), 3);
        x.drop();
        x.pass(0, 33);
        Check.due("the last byte of the last whole one", x.alter(32, 1, true), x.byteAt(32));
        Check.due("is mended to what was written", x.alter(32, 1, false), x.byteAt(32));
        PortableFiles y = fed();
        y.feed(0);
        Check.due("behind IEND there is no whole chunk", y.alter(59, 3, true), 0);
        Check.due("it stays so", y.alter(59, 0, false), 3);
        Check.due("nothing else was mended", y.read(), 3);
        PortableFiles z = fed();
        z.pass(47, 12);
        z.alter(67, 9, false);
        Check.due("a whole chunk behind IEND", z.alter(70, 1, true), 0x82);
        Check.due("is mended", z.alter(67, 0, false), 0xAE);
        PortableFiles short12 = small();
        short12.pass(0, 19);
        Check.due("eleven bytes are no chunk", short12.alter(18, 9, true), short12.byteAt(18));
        Check.due("it stays so", short12.alter(18, 0, false), 9);
    }

    private static void mendsNeedFewBytes() {
        Check.sentence("with at most 255 bytes each");
        PortableFiles x = longChunk(255);
        x.alter(41, 9, true);
        Check.due("255: its sum is right, and it is an extra too long", x.read(), -34);
        Check.due("value", x.told(0), 7);
        PortableFiles y = longChunk(256);
        int sum = 33 + 8 + 256;
        Check.due("a byte of its sum", y.alter(sum, 9, true), 0);
        Check.due("256: nothing is mended", y.alter(sum, 0, false), 9);
        PortableFiles z = longChunk(256);
        int behind = sum + 4;
        Check.due("a chunk behind it is not mended either", z.alter(behind + 11, 1, true), 0x82);
        Check.due("it stays so", z.alter(behind + 11, 0, false), 1);
        PortableFiles w = fed();
        w.alter(33, 128, true);
        w.alter(33, 0, false);
        Check.due("a number without sign is too great, too", w.read(), 3);
        w.alter(33, 255, true);
        w.alter(33, 0, false);
        Check.due("the greatest, too", w.read(), 3);
    }

    /** IHDR, then a chunk of so many bytes with a sum of 0, then IEND. */
    private static PortableFiles longChunk(int length) {
        PortableFiles x = small();
        x.pass(0, 33);
        x.feed(0);
        x.feed(0);
        x.feed(length >> 8);
        x.feed(length & 255);
        for (char c : new char[] {'a', 'b', 'C', 'd'}) {
            x.feed(c);
        }
        for (int i = 0; i < length + 4; i++) {
            x.feed(0);
        }
        x.pass(47, 12);
        return x;
    }

    private static void mendsGoByTheNumbersThen() {
        Check.sentence("as the numbers of bytes are then");
        PortableFiles x = fed();
        Check.due("a number of bytes: 2 becomes 3", x.alter(36, 3, true), 2);
        Check.due("its chunk takes one byte of the next", x.read(), -49);
        Check.due("cut", x.told(0), 1);
        PortableFiles y = fed();
        y.alter(36, 1, true);
        Check.due("2 becomes 1: its sum is right, but what is behind is no chunk", y.read(), -47);
        PortableFiles z = fed();
        z.alter(36, 15, true);
        Check.due("more than are left: cut", z.read(), -34);
        Check.due("back without mending", z.alter(36, 2, false), 15);
        Check.due("nothing had been mended", z.read(), 3);
        PortableFiles w = fed();
        w.alter(36, 14, true);
        Check.due("as many as are left", w.alter(36, 2, false), 14);
        Check.due("mended at its new end", w.read(), -48);
        Check.due("which was IEND's sum", w.told(0), 4);
        PortableFiles v = fed();
        v.alter(11, 14, false);
        v.alter(42, 9, true);
        v.alter(11, 13, false);
        Check.due("a chunk before it has another number: it is in no whole chunk", v.read(), -34);
        Check.due("sum", v.told(0), 4);
    }

    private static void mendsNotInTheBeginning() {
        Check.sentence("from the ninth byte on");
        for (int i = 0; i < 8; i++) {
            PortableFiles x = fed();
            x.alter(32, x.byteAt(32) ^ 1, false);
            int was = x.byteAt(i);
            Check.due("byte " + i, x.alter(i, 1, true), was);
            Check.due("back", x.alter(i, was, true), 1);
            Check.due("no sum was mended", x.read(), -9);
            Check.due("sum", x.told(0), 4);
        }
        PortableFiles y = fed();
        y.alter(32, y.byteAt(32) ^ 1, false);
        y.alter(8, 0, true);
        Check.due("the ninth byte's chunk is mended", y.read(), 3);
        PortableFiles z = fed();
        z.alter(3, 0, false);
        z.alter(42, 9, true);
        z.alter(3, 71, false);
        Check.due("what the eight bytes are is not asked", z.read(), 3);
    }

    private static void dropLeavesNoBytes() {
        Check.sentence("No bytes are fed.");
        PortableFiles x = fedSoMany(2000);
        x.drop();
        Check.due("told(5)", x.told(5), 0);
        Check.dueThrow("the first is gone", Check.INDEX, () -> x.alter(0, 0, false));
        Check.due("reading", x.read(), -1);
        Check.due("cut", x.told(0), 1);
        Check.due("there is room again", x.feed(9), 1);
        x.drop();
        x.drop();
        Check.due("twice", x.told(5), 0);
        PortableFiles y = new PortableFiles();
        y.drop();
        Check.due("where none were", y.told(5), 0);
        PortableFiles z = fed();
        z.drop();
        z.pass(0, 58);
        Check.due("bytes from before do not come back", z.read(), -48);
        Check.due("cut", z.told(0), 1);
    }

    private static void dropLeavesAllElse() {
        Check.sentence("No bytes are fed.");
        PortableFiles x = fed();
        x.read();
        x.drop();
        Check.due("written", x.told(4), 59);
        Check.due("a written byte", x.byteAt(0), 137);
        Check.due("kind", x.told(1), 0);
        Check.due("what was read", x.found(0), 1);
        x.feed(9);
        Check.due("broken", x.read(), -1);
        x.drop();
        Check.due("the fault of the latest reading", x.told(0), 1);
    }
}
