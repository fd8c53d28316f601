/** Feeds a file to a new object and asks what its reading tells. */
final class Reads {
    static final int CUT = 1;
    static final int LENGTH = 2;
    static final int LETTERS = 3;
    static final int SUM = 4;
    static final int ORDER = 5;
    static final int UNKNOWN = 6;
    static final int VALUE = 7;
    static final int DATA = 8;

    /** The data of an IHDR of 1 by 1, 8 bits, kind 0. */
    static final int[] HEAD = {0, 0, 0, 1, 0, 0, 0, 1, 8, 0, 0, 0, 0};

    static PortableFiles fed(ChunkFile file) {
        PortableFiles x = new PortableFiles();
        file.feedTo(x);
        return x;
    }

    /** Nothing is read, and the fault and its place are told. */
    static void dueFault(String what, ChunkFile file, int fault, int place) {
        PortableFiles x = fed(file);
        Check.due(what + ": read", x.read(), -1 - place);
        Check.due(what + ": told(0)", x.told(0), fault);
        Check.dueThrow(what + ": found", Check.STATE, () -> x.found(0));
    }

    static PortableFiles dueChunks(String what, ChunkFile file, int chunks) {
        PortableFiles x = fed(file);
        Check.due(what + ": read", x.read(), chunks);
        Check.due(what + ": told(0)", x.told(0), 0);
        return x;
    }

    /** A head of 1 by 1; the next chunk stands at 33. */
    static ChunkFile head(int bits, int kind) {
        return ChunkFile.head(1, 1, bits, kind);
    }

    /** Ends a file of 1 by 1 in kind 0 or 3 rightly. */
    static ChunkFile ended(ChunkFile file) {
        return file.chunk("IDAT", 0, 0).chunk("IEND");
    }
}
