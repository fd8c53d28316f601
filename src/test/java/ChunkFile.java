import java.io.ByteArrayOutputStream;
import java.nio.charset.StandardCharsets;
import java.util.zip.CRC32;

/** Makes files of chunks byte by byte, right ones and broken ones, without the class under test. */
final class ChunkFile {
    private final ByteArrayOutputStream bytes = new ByteArrayOutputStream();

    static ChunkFile begin() {
        return new ChunkFile().raw(137, 80, 78, 71, 13, 10, 26, 10);
    }

    /** The eight bytes and an IHDR. */
    static ChunkFile head(int width, int height, int bits, int kind) {
        return begin().chunk("IHDR", 0, 0, 0, width, 0, 0, 0, height, bits, kind, 0, 0, 0);
    }

    ChunkFile raw(int... values) {
        for (int v : values) {
            bytes.write(v);
        }
        return this;
    }

    ChunkFile chunk(String letters, int... data) {
        return add(letters, 0, data);
    }

    ChunkFile chunkWithWrongSum(String letters, int... data) {
        return add(letters, 1, data);
    }

    ChunkFile number(long v) {
        return raw((int) (v >> 24 & 255), (int) (v >> 16 & 255), (int) (v >> 8 & 255), (int) (v & 255));
    }

    int size() {
        return bytes.size();
    }

    int[] values() {
        byte[] all = bytes.toByteArray();
        int[] values = new int[all.length];
        for (int i = 0; i < all.length; i++) {
            values[i] = all[i] & 255;
        }
        return values;
    }

    /** Feeds these bytes alone. */
    void feedTo(PortableFiles x) {
        x.drop();
        for (int v : values()) {
            x.feed(v);
        }
    }

    static int letters(String four) {
        return four.charAt(0) << 24 | four.charAt(1) << 16 | four.charAt(2) << 8 | four.charAt(3);
    }

    static String hex(int[] values) {
        StringBuilder text = new StringBuilder();
        for (int v : values) {
            text.append(String.format("%02x", v));
        }
        return text.toString();
    }

    static int[] written(PortableFiles x) {
        int[] values = new int[x.told(4)];
        for (int i = 0; i < values.length; i++) {
            values[i] = x.byteAt(i);
        }
        return values;
    }

    private ChunkFile add(String letters, int sumOff, int... data) {
        number(data.length);
        CRC32 sum = new CRC32();
        for (byte b : letters.getBytes(StandardCharsets.ISO_8859_1)) {
            bytes.write(b);
            sum.update(b);
        }
        for (int v : data) {
            bytes.write(v);
            sum.update(v);
        }
        return number(sum.getValue() + sumOff);
    }
}
