/** Promises 11, 12, 13 and 21: feed, pass, alter and drop. */
public final class FeedTest {
    public static void main(String[] args) {
        feedCounts();
        passFeedsWhatWasWritten();
        passRefuses();
        twoThousandBytesCanBeFed();
        alterAnswersWhatWas();
        alterMendsTheSumOfItsChunk();
        alterMendsOnlyInWholeChunks();
        alterRefuses();
        dropLeavesAllElse();
        Check.end();
    }

    /** A picture of 1 by 1 in kind 0: IHDR at 8, IDAT at 33, IEND at 47, 59 bytes. */
    private static PortableFiles small() {
        PortableFiles x = new PortableFiles();
        x.head(1, 1, 8, 0);
        x.write();
        return x;
    }

    private static void feedCounts() {
        PortableFiles x = new PortableFiles();
        Check.due("feed", x.feed(0), 1);
        Check.due("feed", x.feed(255), 2);
        Check.dueThrow("below", Check.ARGUMENT, () -> x.feed(-1));
        Check.dueThrow("above", Check.ARGUMENT, () -> x.feed(256));
        Check.due("told(5)", x.told(5), 2);
        Check.due("the first", x.alter(0, 0, false), 0);
        Check.due("the second", x.alter(1, 0, false), 255);
    }

    private static void passFeedsWhatWasWritten() {
        PortableFiles x = small();
        Check.due("some", x.pass(0, 8), 8);
        Check.due("told(5)", x.told(5), 8);
        Check.due("none", x.pass(58, 0), 0);
        Check.due("the rest", x.pass(8, 1000), 51);
        Check.due("told(5)", x.told(5), 59);
        Check.due("read", x.read(), 3);
        Check.due("the last byte", x.pass(58, Integer.MAX_VALUE), 1);
        Check.due("told(5)", x.told(5), 60);
        Check.due("it", x.alter(59, 0, false), 0x82);
    }

    private static void passRefuses() {
        PortableFiles x = small();
        Check.dueThrow("below", Check.INDEX, () -> x.pass(-1, -1));
        Check.dueThrow("beyond", Check.INDEX, () -> x.pass(59, 0));
        Check.dueThrow("far", Check.INDEX, () -> x.pass(Integer.MAX_VALUE, Integer.MAX_VALUE));
        Check.dueThrow("fewer than none", Check.ARGUMENT, () -> x.pass(0, -1));
        Check.dueThrow("fewer than none", Check.ARGUMENT, () -> x.pass(0, Integer.MIN_VALUE));
        Check.due("told(5)", x.told(5), 0);
    }

    private static void twoThousandBytesCanBeFed() {
        PortableFiles x = new PortableFiles();
        x.head(12, 12, 8, 6);
        int n = x.write();
        Check.due("written", n, 8 + 25 + 708 + 12);
        Check.due("first", x.pass(0, 2000), n);
        Check.due("second", x.pass(0, 2000), n);
        Check.dueThrow("one too many", Check.ROOM, () -> x.pass(0, 2000 - 2 * n + 1));
        Check.dueThrow("fewer than none first", Check.ARGUMENT, () -> x.pass(0, -1));
        Check.due("told(5)", x.told(5), 2 * n);
        Check.due("up to one less", x.pass(0, 2000 - 2 * n - 1), 2000 - 2 * n - 1);
        Check.due("the last", x.feed(1), 2000);
        Check.dueThrow("feed: no byte first", Check.ARGUMENT, () -> x.feed(256));
        Check.dueThrow("feed", Check.ROOM, () -> x.feed(0));
        Check.dueThrow("pass", Check.ROOM, () -> x.pass(0, 1));
        Check.due("none has room", x.pass(0, 0), 0);
        Check.due("told(5)", x.told(5), 2000);
        Check.due("what is behind IEND is not looked at", x.read(), 12);
        Check.due("the last byte", x.alter(1999, 2, true), 1);
    }

    private static void alterAnswersWhatWas() {
        PortableFiles x = small();
        x.pass(0, 59);
        Check.due("alter", x.alter(42, 200, false), 0);
        Check.due("alter", x.alter(42, 200, false), 200);
        Check.due("a wrong sum", x.read(), -34);
        Check.due("alter", x.alter(42, 200, true), 200);
        Check.due("a right sum", x.read(), 3);
        Check.due("the sample", x.at(0, 0, 0), 200);
        Check.due("what was written stays", x.byteAt(42), 0);
    }

    private static void alterMendsTheSumOfItsChunk() {
        PortableFiles x = small();
        x.pass(0, 59);
        for (int i = 33; i < 47; i++) {
            x.alter(i, 1, false);
        }
        // the number of bytes, the letters and the data by hand, the sum by mends
        int[] due = {0, 0, 0, 2, 'I', 'D', 'A', 'T', 0, 5};
        for (int i = 0; i < due.length; i++) {
            x.alter(33 + i, due[i], false);
        }
        Check.due("the sum is wrong", x.read(), -34);
        Check.due("in the sum itself", x.alter(46, 99, true), 1);
        Check.due("the sum is right", x.read(), 3);
        Check.due("the sample", x.at(0, 0, 0), 5);
        Check.due("a number of bytes", x.alter(36, 3, true), 2);
        Check.due("its chunk now takes one of the next", x.read(), -49);
        Check.due("and the next is cut short", x.told(0), 1);
    }

    private static void alterMendsOnlyInWholeChunks() {
        PortableFiles x = small();
        x.pass(0, 59);
        Check.due("before the first chunk", x.alter(7, 11, true), 10);
        Check.due("back", x.alter(7, 10, true), 11);
        Check.due("whole", x.read(), 3);
        x.alter(42, 7, false);
        x.alter(11, 14, false);
        x.alter(42, 9, true);
        x.alter(11, 13, false);
        Check.due("a chunk before it is not whole", x.read(), -34);
        Check.due("sum", x.told(0), 4);
        x.alter(42, 9, true);
        Check.due("mended", x.read(), 3);
        x.alter(35, 1, true);
        x.alter(35, 0, false);
        Check.due("more than 255 bytes: nothing is mended", x.read(), 3);
        x.alter(33, 128, true);
        x.alter(33, 0, false);
        Check.due("a number without sign: nothing is mended", x.read(), 3);
        x.drop();
        x.pass(0, 46);
        x.alter(42, 5, true);
        x.pass(46, 13);
        Check.due("a chunk without its last byte is not mended", x.read(), -34);
        x.drop();
        x.pass(0, 33);
        Check.due("the last byte of a chunk", x.alter(32, 1, true), x.byteAt(32));
        Check.due("mended to what was written", x.alter(32, 1, false), x.byteAt(32));
        x.drop();
        x.pass(0, 59);
        x.feed(0);
        Check.due("behind IEND", x.alter(59, 3, true), 0);
        Check.due("nothing else", x.read(), 3);
    }

    private static void alterRefuses() {
        PortableFiles x = small();
        x.pass(0, 59);
        Check.dueThrow("below", Check.INDEX, () -> x.alter(-1, -1, true));
        Check.dueThrow("beyond", Check.INDEX, () -> x.alter(59, 0, true));
        Check.dueThrow("far", Check.INDEX, () -> x.alter(Integer.MAX_VALUE, 0, false));
        Check.dueThrow("no byte", Check.ARGUMENT, () -> x.alter(0, 256, true));
        Check.dueThrow("no byte", Check.ARGUMENT, () -> x.alter(58, -1, true));
        Check.due("as it was", x.read(), 3);
        x.drop();
        Check.dueThrow("dropped", Check.INDEX, () -> x.alter(0, 0, true));
    }

    private static void dropLeavesAllElse() {
        PortableFiles x = small();
        x.pass(0, 59);
        x.read();
        x.drop();
        Check.due("fed", x.told(5), 0);
        Check.due("written", x.told(4), 59);
        Check.due("kind", x.told(1), 0);
        Check.due("what was read", x.found(0), 1);
        Check.due("feed", x.feed(9), 1);
        Check.due("broken", x.read(), -1);
        x.drop();
        Check.due("the fault", x.told(0), 1);
        x.drop();
        Check.due("fed", x.told(5), 0);
    }
}
