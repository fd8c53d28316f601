import java.util.List;
import java.util.function.Consumer;

/** The paragraph on refused calls: which exception is the first one, and that a call that throws changes nothing. */
public final class RefusalTest {
    private static final int SAFE = ChunkFile.letters("abCd");
    private static final int UNSAFE = ChunkFile.letters("abCD");

    public static void main(String[] args) {
        noPicture();
        nothingRead();
        wrongHeads();
        stateBeforeIndex();
        stateBeforeArgument();
        indexBeforeArgument();
        indexBeforeRoom();
        argumentBeforeRoom();
        eachRefusalAlone();
        Check.end();
    }

    /** The call throws on one of two equal objects; then both tell the same of everything. */
    private static void dueRefusal(String call, Class<? extends RuntimeException> want,
            Consumer<PortableFiles> before, Consumer<PortableFiles> refused) {
        PortableFiles x = new PortableFiles();
        PortableFiles twin = new PortableFiles();
        before.accept(x);
        before.accept(twin);
        Check.dueThrow(call, want, () -> refused.accept(x));
        Check.due(call + ": changes nothing", everythingOf(x), everythingOf(twin));
    }

    /** All that an object can tell, the picture last, as it is written for that. */
    private static String everythingOf(PortableFiles x) {
        StringBuilder all = new StringBuilder();
        for (int what = 0; what <= 6; what++) {
            all.append(x.told(what)).append(' ');
        }
        all.append(ChunkFile.hex(ChunkFile.written(x))).append(' ');
        addWhatWasRead(x, all);
        for (int i = 0; i < x.told(5); i++) {
            all.append(x.alter(i, 0, false)).append(' ');
        }
        if (x.told(1) != PortableFiles.NONE) {
            if (x.told(1) == 3 && x.told(6) == 0) {
                x.colour(0, 0, 0, 0);
            }
            x.write();
            all.append(ChunkFile.hex(ChunkFile.written(x)));
        }
        return all.toString();
    }

    private static void addWhatWasRead(PortableFiles x, StringBuilder all) {
        if (!Check.thrownBy(() -> x.found(0)).equals("nothing thrown")) {
            all.append("nothing was read ");
            return;
        }
        for (int what = 0; what <= 9; what++) {
            all.append(x.found(what)).append(' ');
        }
        int channels = x.found(3) == 2 ? 3 : x.found(3) == 4 ? 2 : x.found(3) == 6 ? 4 : 1;
        for (int k = 0; k < x.found(0) * x.found(1) * channels; k++) {
            all.append(x.at(k / channels % x.found(0), k / channels / x.found(0), k % channels)).append(' ');
        }
        for (int k = 0; k < 4 * x.found(4); k++) {
            all.append(x.entry(k / 4, k % 4)).append(' ');
        }
        for (int k = 0; k < x.found(8); k++) {
            for (int i = -1; Check.thrownBy(unknown(x, k, i)).equals("nothing thrown"); i++) {
                all.append(x.unknown(k, i)).append(' ');
            }
        }
    }

    private static Check.Call unknown(PortableFiles x, int k, int i) {
        return () -> x.unknown(k, i);
    }

    /** Nothing at all has been done yet. */
    private static void fresh(PortableFiles x) {
        Check.due("fresh", x.told(1), PortableFiles.NONE);
    }

    /** Bytes are fed, and what was read is there; there is no picture. */
    private static void readAlone(PortableFiles x) {
        Reads.ended(Reads.head(8, 3).chunk("gAMA", 0, 0, 0, 9).chunk("PLTE", 1, 2, 3).chunk("tRNS", 4)
                .chunk("abCD", 5, 6)).feedTo(x);
        x.read();
    }

    /** A picture with palette and extras, written, fed and read, and another one begun behind it. */
    private static void full(PortableFiles x) {
        x.head(2, 1, 1, 3);
        x.colour(1, 2, 3, 4);
        x.colour(5, 6, 7, 255);
        x.put(1, 0, 0, 1);
        x.tag(0, 45455);
        x.extra(UNSAFE);
        x.extra(SAFE);
        x.byteOf(0, 1);
        for (int i = 0; i < 40; i++) {
            x.byteOf(1, i);
        }
        x.write();
        x.pass(0, 2000);
        x.read();
        x.tag(1, 2);
    }

    private static void fullOfExtras(PortableFiles x) {
        full(x);
        for (int k = 2; k < 6; k++) {
            x.extra(UNSAFE);
        }
    }

    private static void fullOfBytes(PortableFiles x) {
        full(x);
        int n = x.told(4);
        while (x.told(5) < 2000) {
            x.pass(0, Math.min(n, 2000 - x.told(5)));
        }
    }

    private static void grey(PortableFiles x) {
        full(x);
        x.head(2, 1, 8, 0);
        x.extra(UNSAFE);
    }

    private static void noEntry(PortableFiles x) {
        full(x);
        x.head(2, 1, 8, 3);
        x.extra(SAFE);
    }

    private static void noPicture() {
        Check.sentence("IllegalState: there is no picture");
        for (Consumer<PortableFiles> before : List.<Consumer<PortableFiles>>of(
                RefusalTest::fresh, RefusalTest::readAlone)) {
            dueRefusal("colour", Check.STATE, before, x -> x.colour(0, 0, 0, 0));
            dueRefusal("put", Check.STATE, before, x -> x.put(0, 0, 0, 0));
            dueRefusal("tag", Check.STATE, before, x -> x.tag(0, 1));
            dueRefusal("tag none", Check.STATE, before, x -> x.tag(0, -1));
            dueRefusal("extra", Check.STATE, before, x -> x.extra(SAFE));
            dueRefusal("byteOf", Check.STATE, before, x -> x.byteOf(0, 0));
            dueRefusal("reduce", Check.STATE, before, x -> x.reduce());
            dueRefusal("write", Check.STATE, before, x -> x.write());
        }
    }

    private static void nothingRead() {
        Check.sentence("nothing was READ");
        Consumer<PortableFiles> broken = x -> {
            full(x);
            x.alter(0, 0, false);
            x.read();
        };
        for (Consumer<PortableFiles> before : List.<Consumer<PortableFiles>>of(RefusalTest::fresh, broken)) {
            dueRefusal("at", Check.STATE, before, x -> x.at(0, 0, 0));
            dueRefusal("found", Check.STATE, before, x -> x.found(0));
            dueRefusal("entry", Check.STATE, before, x -> x.entry(0, 0));
            dueRefusal("unknown", Check.STATE, before, x -> x.unknown(0, -1));
            dueRefusal("take", Check.STATE, before, x -> x.take());
        }
    }

    private static void wrongHeads() {
        Check.sentence("A call that throws changes nothing.");
        int[][] wrong = {{0, 1, 8, 0}, {1, 13, 8, 0}, {1, 1, 3, 0}, {1, 1, 8, 5}, {1, 1, 4, 6}};
        for (int[] w : wrong) {
            dueRefusal("head", Check.ARGUMENT, RefusalTest::full, x -> x.head(w[0], w[1], w[2], w[3]));
            dueRefusal("head", Check.ARGUMENT, RefusalTest::fresh, x -> x.head(w[0], w[1], w[2], w[3]));
        }
    }

    private static void stateBeforeIndex() {
        Check.sentence("Of several that a call names, the first one.");
        dueRefusal("put", Check.STATE, RefusalTest::fresh, x -> x.put(-1, 12, 4, 0));
        dueRefusal("byteOf", Check.STATE, RefusalTest::fresh, x -> x.byteOf(-1, 0));
        dueRefusal("at", Check.STATE, RefusalTest::fresh, x -> x.at(-1, 12, 4));
        dueRefusal("entry", Check.STATE, RefusalTest::fresh, x -> x.entry(-1, 0));
        dueRefusal("unknown", Check.STATE, RefusalTest::fresh, x -> x.unknown(-1, -2));
    }

    private static void stateBeforeArgument() {
        Check.sentence("Of several that a call names, the first one.");
        dueRefusal("colour", Check.STATE, RefusalTest::fresh, x -> x.colour(-1, 256, 0, 0));
        dueRefusal("colour of another kind", Check.STATE, RefusalTest::grey, x -> x.colour(-1, 256, 0, 0));
        dueRefusal("put", Check.STATE, RefusalTest::fresh, x -> x.put(0, 0, 0, -1));
        dueRefusal("put, all wrong", Check.STATE, RefusalTest::fresh, x -> x.put(-1, -1, -1, -1));
        dueRefusal("tag", Check.STATE, RefusalTest::fresh, x -> x.tag(3, 1));
        dueRefusal("tag", Check.STATE, RefusalTest::fresh, x -> x.tag(0, -2));
        dueRefusal("extra", Check.STATE, RefusalTest::fresh, x -> x.extra(0));
        dueRefusal("byteOf", Check.STATE, RefusalTest::fresh, x -> x.byteOf(0, 256));
        dueRefusal("entry", Check.STATE, RefusalTest::fresh, x -> x.entry(0, 4));
        dueRefusal("entry, all wrong", Check.STATE, RefusalTest::fresh, x -> x.entry(-1, 4));
    }

    private static void indexBeforeArgument() {
        Check.sentence("Of several that a call names, the first one.");
        dueRefusal("put", Check.INDEX, RefusalTest::full, x -> x.put(2, 0, 0, 2));
        dueRefusal("put", Check.INDEX, RefusalTest::full, x -> x.put(0, 1, 0, -1));
        dueRefusal("put", Check.INDEX, RefusalTest::full, x -> x.put(0, 0, 1, 256));
        dueRefusal("byteOf", Check.INDEX, RefusalTest::full, x -> x.byteOf(2, 256));
        dueRefusal("byteOf", Check.INDEX, RefusalTest::full, x -> x.byteOf(-1, -1));
        dueRefusal("pass", Check.INDEX, RefusalTest::full, x -> x.pass(-1, -1));
        dueRefusal("pass", Check.INDEX, RefusalTest::full, x -> x.pass(x.told(4), -1));
        dueRefusal("alter", Check.INDEX, RefusalTest::full, x -> x.alter(-1, 256, true));
        dueRefusal("alter", Check.INDEX, RefusalTest::full, x -> x.alter(x.told(5), -1, false));
        dueRefusal("entry", Check.INDEX, RefusalTest::full, x -> x.entry(2, 4));
        dueRefusal("entry", Check.INDEX, RefusalTest::full, x -> x.entry(-1, -1));
    }

    private static void indexBeforeRoom() {
        Check.sentence("Of several that a call names, the first one.");
        dueRefusal("pass", Check.INDEX, RefusalTest::fullOfBytes, x -> x.pass(x.told(4), 1));
        dueRefusal("pass", Check.INDEX, RefusalTest::fullOfBytes, x -> x.pass(-1, 2000));
        dueRefusal("pass, all wrong", Check.INDEX, RefusalTest::fullOfBytes, x -> x.pass(-1, -1));
    }

    private static void argumentBeforeRoom() {
        Check.sentence("Of several that a call names, the first one.");
        for (int b : new int[] {-1, 256}) {
            dueRefusal("red", Check.ARGUMENT, RefusalTest::full, x -> x.colour(b, 0, 0, 0));
            dueRefusal("green", Check.ARGUMENT, RefusalTest::full, x -> x.colour(0, b, 0, 0));
            dueRefusal("blue", Check.ARGUMENT, RefusalTest::full, x -> x.colour(0, 0, b, 0));
            dueRefusal("alpha", Check.ARGUMENT, RefusalTest::full, x -> x.colour(0, 0, 0, b));
            dueRefusal("byteOf", Check.ARGUMENT, RefusalTest::full, x -> x.byteOf(1, b));
            dueRefusal("feed", Check.ARGUMENT, RefusalTest::fullOfBytes, x -> x.feed(b));
        }
        for (String four : new String[] {"gAMA", "sRGB", "pHYs", "tRNS", "AbCd", "abcd", "ab1d"}) {
            dueRefusal("extra " + four, Check.ARGUMENT, RefusalTest::fullOfExtras, x -> x.extra(ChunkFile.letters(four)));
        }
        dueRefusal("pass", Check.ARGUMENT, RefusalTest::fullOfBytes, x -> x.pass(0, -1));
        dueRefusal("pass", Check.ARGUMENT, RefusalTest::fullOfBytes, x -> x.pass(0, Integer.MIN_VALUE));
    }

    /** Every refusal that is left, one fault at a time, on an object that has something to lose. */
    private static void eachRefusalAlone() {
        Check.sentence("A call that throws changes nothing.");
        dueRefusal("colour of another kind", Check.STATE, RefusalTest::grey, x -> x.colour(1, 1, 1, 1));
        dueRefusal("colour without room", Check.ROOM, RefusalTest::full, x -> x.colour(1, 1, 1, 1));
        dueRefusal("colour without a byte", Check.ARGUMENT, RefusalTest::noEntry, x -> x.colour(1, 1, 1, 256));
        dueRefusal("put nowhere", Check.INDEX, RefusalTest::full, x -> x.put(2, 0, 0, 0));
        dueRefusal("put of too many bits", Check.ARGUMENT, RefusalTest::grey, x -> x.put(0, 0, 0, 256));
        dueRefusal("put below 0", Check.ARGUMENT, RefusalTest::grey, x -> x.put(0, 0, 0, -1));
        dueRefusal("put of no entry", Check.ARGUMENT, RefusalTest::noEntry, x -> x.put(0, 0, 0, 0));
        dueRefusal("tag of no what", Check.ARGUMENT, RefusalTest::full, x -> x.tag(3, 1));
        dueRefusal("tag of no number", Check.ARGUMENT, RefusalTest::full, x -> x.tag(0, 0));
        dueRefusal("tag of no intent", Check.ARGUMENT, RefusalTest::full, x -> x.tag(1, 4));
        dueRefusal("extra of other letters", Check.ARGUMENT, RefusalTest::full, x -> x.extra(0));
        dueRefusal("extra without room", Check.ROOM, RefusalTest::fullOfExtras, x -> x.extra(SAFE));
        dueRefusal("byteOf of no extra", Check.INDEX, RefusalTest::full, x -> x.byteOf(2, 0));
        dueRefusal("byteOf of no byte", Check.ARGUMENT, RefusalTest::full, x -> x.byteOf(0, 256));
        dueRefusal("byteOf without room", Check.ROOM, RefusalTest::full, x -> x.byteOf(1, 0));
        dueRefusal("write without an entry", Check.STATE, RefusalTest::noEntry, x -> x.write());
        dueRefusal("byteAt", Check.INDEX, RefusalTest::full, x -> x.byteAt(x.told(4)));
        dueRefusal("byteAt", Check.INDEX, RefusalTest::full, x -> x.byteAt(-1));
        dueRefusal("feed of no byte", Check.ARGUMENT, RefusalTest::full, x -> x.feed(256));
        dueRefusal("feed without room", Check.ROOM, RefusalTest::fullOfBytes, x -> x.feed(0));
        dueRefusal("pass from no byte", Check.INDEX, RefusalTest::full, x -> x.pass(x.told(4), 0));
        dueRefusal("pass of fewer than none", Check.ARGUMENT, RefusalTest::full, x -> x.pass(0, -1));
        dueRefusal("pass without room", Check.ROOM, RefusalTest::fullOfBytes, x -> x.pass(0, 1));
        dueRefusal("alter of no byte", Check.INDEX, RefusalTest::full, x -> x.alter(x.told(5), 0, true));
        dueRefusal("alter to no byte", Check.ARGUMENT, RefusalTest::full, x -> x.alter(20, 256, true));
        dueRefusal("at nowhere", Check.INDEX, RefusalTest::full, x -> x.at(2, 0, 0));
        dueRefusal("entry of none", Check.INDEX, RefusalTest::full, x -> x.entry(2, 0));
        dueRefusal("entry of no part", Check.ARGUMENT, RefusalTest::full, x -> x.entry(0, 4));
        dueRefusal("unknown of none", Check.INDEX, RefusalTest::full, x -> x.unknown(2, -1));
        dueRefusal("unknown of no byte", Check.INDEX, RefusalTest::full, x -> x.unknown(0, 1));
    }
}
