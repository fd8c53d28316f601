import java.util.ArrayList;
import java.util.Arrays;
import java.util.List;
import java.util.zip.CRC32;

/** A second reader, written from the document's words: each rule asks the list of chunks that came before. */
final class PlainReader {
    static final class Chunk {
        final int place;
        final String letters;
        final int[] data;
        final boolean leftOut;

        Chunk(int place, String letters, int[] data, boolean leftOut) {
            this.place = place;
            this.letters = letters;
            this.data = data;
            this.leftOut = leftOut;
        }
    }

    int fault = 0;
    int place = 0;
    final List<Chunk> came = new ArrayList<>();
    int width;
    int height;
    int bits;
    int kind;
    int channels;
    final List<Integer> samples = new ArrayList<>();

    PlainReader(int[] bytes) {
        int[] eight = {137, 80, 78, 71, 13, 10, 26, 10};
        if (bytes.length < 8 || !Arrays.equals(Arrays.copyOf(bytes, 8), eight)) {
            fault = 1;
            return;
        }
        place = 8;
        while (fault == 0 && !last("IEND")) {
            fault = next(bytes);
            if (fault == 0) {
                place += 12 + came.get(came.size() - 1).data.length;
            }
        }
    }

    int answer() {
        return fault != 0 ? -1 - place : count(false);
    }

    int count(boolean leftOut) {
        int n = 0;
        for (Chunk c : came) {
            n += c.leftOut == leftOut ? 1 : 0;
        }
        return n;
    }

    List<Chunk> extras() {
        List<Chunk> extras = new ArrayList<>();
        for (Chunk c : came) {
            if (!c.leftOut && isExtra(c.letters)) {
                extras.add(c);
            }
        }
        return extras;
    }

    int[] dataOf(String letters) {
        for (Chunk c : came) {
            if (!c.leftOut && c.letters.equals(letters)) {
                return c.data;
            }
        }
        return null;
    }

    static long number(int[] v, int i) {
        return ((long) v[i] << 24) + (v[i + 1] << 16) + (v[i + 2] << 8) + v[i + 3];
    }

    /** Makes the sum right of the chunk that byte i is in, if whole chunks lead up to it. */
    static void mend(int[] bytes, int i) {
        int place = 8;
        while (i >= place && place + 12 <= bytes.length && number(bytes, place) < 256) {
            int end = place + 12 + bytes[place + 3];
            if (end > bytes.length) {
                return;
            }
            if (i < end) {
                CRC32 sum = new CRC32();
                for (int k = place + 4; k < end - 4; k++) {
                    sum.update(bytes[k]);
                }
                for (int k = 0; k < 4; k++) {
                    bytes[end - 4 + k] = (int) (sum.getValue() >> 24 - 8 * k & 255);
                }
                return;
            }
            place = end;
        }
    }

    private int next(int[] bytes) {
        int left = bytes.length - place;
        if (left < 12) {
            return 1;
        }
        long length = number(bytes, place);
        if (length > 255) {
            return 2;
        }
        if (left < 12 + length) {
            return 1;
        }
        int n = (int) length;
        StringBuilder four = new StringBuilder();
        for (int i = 4; i < 8; i++) {
            four.append((char) bytes[place + i]);
        }
        String letters = four.toString();
        if (!letters.matches("[A-Za-z][A-Za-z][A-Z][A-Za-z]")) {
            return 3;
        }
        int[] data = Arrays.copyOfRange(bytes, place + 8, place + 8 + n);
        CRC32 sum = new CRC32();
        for (int i = 4; i < 8 + n; i++) {
            sum.update(bytes[place + i]);
        }
        boolean right = sum.getValue() == number(bytes, place + 8 + n);
        boolean great = Character.isUpperCase(letters.charAt(0));
        if (!right && great) {
            return 4;
        }
        if (right) {
            int broken = order(letters) ? 5 : isUnknown(letters, great) ? 6 : value(letters, data) ? 0 : 7;
            if (broken != 0) {
                return broken;
            }
        }
        came.add(new Chunk(place, letters, data, !right));
        return right && letters.equals("IEND") && !rowsAreRight() ? 8 : 0;
    }

    private boolean last(String letters) {
        return !came.isEmpty()
                && !came.get(came.size() - 1).leftOut
                && came.get(came.size() - 1).letters.equals(letters);
    }

    private boolean has(String letters) {
        return dataOf(letters) != null;
    }

    /** Whether a chunk of these letters would break the order. */
    private boolean order(String letters) {
        boolean head = has("IHDR");
        if (!head || letters.equals("IHDR")) {
            return head == letters.equals("IHDR");
        }
        boolean once = Arrays.asList("gAMA", "sRGB", "pHYs", "PLTE", "tRNS").contains(letters);
        if (once && (has("IDAT") || has(letters))) {
            return true;
        }
        if ((letters.equals("gAMA") || letters.equals("sRGB")) && has("PLTE")) {
            return true;
        }
        if (letters.equals("tRNS") && !has("PLTE") || letters.equals("IEND") && !has("IDAT")) {
            return true;
        }
        if (letters.equals("PLTE") && (kind == 0 || kind == 4)) {
            return true;
        }
        return letters.equals("IDAT") && (has("IDAT") && !last("IDAT") || kind == 3 && !has("PLTE"));
    }

    private static boolean isUnknown(String letters, boolean great) {
        return great && !Arrays.asList("IHDR", "PLTE", "IDAT", "IEND").contains(letters);
    }

    private static boolean isExtra(String letters) {
        return Character.isLowerCase(letters.charAt(0))
                && !Arrays.asList("gAMA", "sRGB", "pHYs", "tRNS").contains(letters);
    }

    private boolean value(String letters, int[] data) {
        int n = data.length;
        switch (letters) {
            case "IHDR":
                return headIsRight(data);
            case "gAMA":
                return n == 4 && number(data, 0) > 0 && number(data, 0) <= Integer.MAX_VALUE;
            case "sRGB":
                return n == 1 && data[0] < 4;
            case "pHYs":
                return n == 9 && number(data, 0) == number(data, 4) && number(data, 0) > 0
                        && number(data, 0) <= Integer.MAX_VALUE && data[8] == 1;
            case "PLTE":
                return n > 0 && n % 3 == 0 && n / 3 <= 64 && n / 3 <= 1 << bits;
            case "tRNS":
                return kind == 3 && n > 0 && n <= dataOf("PLTE").length / 3;
            case "IEND":
                return n == 0;
            case "IDAT":
                return true;
            default:
                return n <= 40 && extras().size() < 6;
        }
    }

    private boolean headIsRight(int[] data) {
        if (data.length != 13) {
            return false;
        }
        int[] some = {data[8], data[9]};
        int[][] shapes = {{1, 0}, {2, 0}, {4, 0}, {8, 0}, {1, 3}, {2, 3}, {4, 3}, {8, 3}, {8, 2}, {8, 4}, {8, 6}};
        boolean known = false;
        for (int[] s : shapes) {
            known |= Arrays.equals(s, some);
        }
        long w = number(data, 0);
        long h = number(data, 4);
        width = (int) w;
        height = (int) h;
        bits = data[8];
        kind = data[9];
        channels = kind == 2 ? 3 : kind == 4 ? 2 : kind == 6 ? 4 : 1;
        return known && w > 0 && w < 13 && h > 0 && h < 13 && data[10] + data[11] + data[12] == 0;
    }

    /** Turns all rows into one text of bits and cuts the samples off it. */
    private boolean rowsAreRight() {
        StringBuilder all = new StringBuilder();
        for (Chunk c : came) {
            if (c.letters.equals("IDAT")) {
                for (int b : c.data) {
                    all.append(Integer.toBinaryString(256 + b).substring(1));
                }
            }
        }
        int used = width * channels * bits;
        int row = 8 + (used + 7) / 8 * 8;
        if (all.length() != row * height) {
            return false;
        }
        boolean right = true;
        for (int y = 0; y < height; y++) {
            String text = all.substring(y * row, (y + 1) * row);
            right &= text.startsWith("00000000") && !text.substring(8 + used).contains("1");
            for (int k = 0; k < width * channels; k++) {
                int v = Integer.parseInt(text.substring(8 + k * bits, 8 + (k + 1) * bits), 2);
                right &= kind != 3 || v < dataOf("PLTE").length / 3;
                samples.add(v);
            }
        }
        return right;
    }
}
