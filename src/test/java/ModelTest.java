import java.util.ArrayList;
import java.util.Arrays;
import java.util.List;

/** Promises 9, 13 and 14 on many files: what the class writes and reads against PlainReader. */
public final class ModelTest {
    private static final int[] FAULTS = new int[9];

    public static void main(String[] args) {
        for (int seed = 1; seed <= 3000; seed++) {
            writtenFilesAreRead(seed);
        }
        for (int seed = 1; seed <= 20000; seed++) {
            madeFilesAreRead(new Numbers(seed));
        }
        for (int fault = 0; fault <= 8; fault++) {
            Check.due("fault " + fault + " came often", FAULTS[fault] > 100 ? 1 : 0, 1);
        }
        Check.end();
    }

    private static PortableFiles anyPicture(Numbers numbers) {
        PortableFiles x = new PortableFiles();
        int kind = numbers.of(0, 2, 3, 3, 4, 6);
        int bits = kind == 0 || kind == 3 ? numbers.of(1, 2, 4, 8) : 8;
        int width = 1 + numbers.below(kind == 0 || kind == 3 ? 12 : 4);
        int height = 1 + numbers.below(3);
        int channels = kind == 2 ? 3 : kind == 4 ? 2 : kind == 6 ? 4 : 1;
        x.head(width, height, bits, kind);
        int entries = kind == 3 ? 1 + numbers.below(Math.min(20, 1 << bits)) : 0;
        for (int k = 0; k < entries; k++) {
            x.colour(numbers.below(256), numbers.below(256), k, numbers.of(255, 255, numbers.below(256)));
        }
        for (int n = numbers.below(30); n > 0; n--) {
            int most = kind == 3 ? entries : 1 << bits;
            x.put(numbers.below(width), numbers.below(height), numbers.below(channels), numbers.below(most));
        }
        for (int what = 0; what < 3; what++) {
            x.tag(what, numbers.of(-1, 1, 2, 3));
        }
        for (int k = numbers.below(4); k > 0; k--) {
            int extras = x.extra(ChunkFile.letters(numbers.once(2) ? "abCd" : "xyZZ"));
            for (int i = numbers.below(9); i > 0; i--) {
                x.byteOf(extras - 1, numbers.below(256));
            }
        }
        return x;
    }

    /** Two objects with the same picture: one tells the bytes, so that the other stays below 512 calls. */
    private static void writtenFilesAreRead(int seed) {
        Numbers numbers = new Numbers(seed);
        PortableFiles x = anyPicture(numbers);
        int[] bytes = writtenBy(anyPicture(new Numbers(seed)));
        x.write();
        x.pass(0, bytes.length);
        Check.due("a written file is right", x.read() > 0 ? 1 : 0, 1);
        x.take();
        Check.due("written again", x.write(), bytes.length);
        x.drop();
        x.pass(0, bytes.length);
        for (int k = numbers.below(4); k > 0; k--) {
            int i = numbers.below(bytes.length);
            int b = numbers.of(0, 1, 255, numbers.below(256));
            boolean mends = numbers.once(2);
            Check.due("alter", x.alter(i, b, mends), bytes[i]);
            bytes[i] = b;
            if (mends) {
                PlainReader.mend(bytes, i);
            }
        }
        sameReading(ChunkFile.hex(bytes), x, new PlainReader(bytes));
    }

    private static int[] writtenBy(PortableFiles x) {
        x.write();
        return ChunkFile.written(x);
    }

    private static void madeFilesAreRead(Numbers numbers) {
        int kind = numbers.of(0, 2, 3, 3, 3, 4, 6);
        int bits = kind == 0 || kind == 3 ? numbers.of(1, 2, 4, 8) : 8;
        int width = 1 + numbers.below(3);
        List<ChunkLine> lines = rightLines(numbers, width, bits, kind);
        for (int k = numbers.below(4); k > 0; k--) {
            breakLines(numbers, lines);
        }
        ChunkFile file = ChunkFile.begin();
        for (ChunkLine line : lines) {
            line.addTo(file);
        }
        PortableFiles x = new PortableFiles();
        file.feedTo(x);
        sameReading(ChunkFile.hex(file.values()), x, new PlainReader(file.values()));
    }

    private static final class ChunkLine {
        String letters;
        int[] data;
        boolean wrongSum;

        ChunkLine(String letters, int... data) {
            this.letters = letters;
            this.data = data;
        }

        void addTo(ChunkFile file) {
            if (wrongSum) {
                file.chunkWithWrongSum(letters, data);
            } else {
                file.chunk(letters, data);
            }
        }
    }

    private static List<ChunkLine> rightLines(Numbers numbers, int width, int bits, int kind) {
        List<ChunkLine> lines = new ArrayList<>();
        lines.add(new ChunkLine("IHDR", 0, 0, 0, width, 0, 0, 0, 1, bits, kind, 0, 0, 0));
        if (numbers.once(3)) {
            lines.add(new ChunkLine("gAMA", 0, 0, 0, 1));
        }
        if (numbers.once(3)) {
            lines.add(new ChunkLine("sRGB", 2));
        }
        if (numbers.once(3)) {
            lines.add(new ChunkLine("pHYs", 0, 0, 0, 9, 0, 0, 0, 9, 1));
        }
        if (kind == 3 || kind != 0 && kind != 4 && numbers.once(2)) {
            lines.add(new ChunkLine("PLTE", 1, 2, 3, 4, 5, 6));
        }
        if (kind == 3 && numbers.once(2)) {
            lines.add(new ChunkLine("tRNS", 7));
        }
        int channels = kind == 2 ? 3 : kind == 4 ? 2 : kind == 6 ? 4 : 1;
        int[] row = new int[1 + (width * channels * bits + 7) / 8];
        if (bits == 8 && kind != 3) {
            row[1] = numbers.below(256);
        }
        int cut = numbers.below(row.length);
        lines.add(new ChunkLine("IDAT", Arrays.copyOfRange(row, 0, cut)));
        lines.add(new ChunkLine("IDAT", Arrays.copyOfRange(row, cut, row.length)));
        if (numbers.once(2)) {
            lines.add(new ChunkLine("abCd", 1, 2));
        }
        lines.add(new ChunkLine("IEND"));
        return lines;
    }

    private static void breakLines(Numbers numbers, List<ChunkLine> lines) {
        int k = numbers.below(lines.size());
        ChunkLine line = lines.get(k);
        switch (numbers.below(8)) {
            case 0:
                lines.add(numbers.below(lines.size() + 1), new ChunkLine(line.letters, line.data));
                break;
            case 1:
                if (lines.size() > 1) {
                    lines.remove(k);
                }
                break;
            case 2:
                lines.add(numbers.below(lines.size()), lines.remove(k));
                break;
            case 3:
                line.wrongSum = true;
                break;
            case 4:
                if (line.data.length > 0) {
                    line.data = line.data.clone();
                    line.data[numbers.below(line.data.length)] = numbers.of(0, 1, 2, 8, 128, numbers.below(256));
                }
                break;
            case 5:
                int n = line.data.length;
                line.data = Arrays.copyOf(line.data, numbers.of(0, n + 1, Math.max(0, n - 1), 40, 41, 255));
                break;
            case 6:
                String[] others = {"abCd", "tRNS", "gAMA", "AbCd", "ab1d", "PLTE", "sRGB", "pHYs", "abcd"};
                line.letters = others[numbers.below(others.length)];
                break;
            default:
                ChunkLine extra = new ChunkLine("exTR", numbers.below(256));
                extra.wrongSum = numbers.once(2);
                lines.add(k, extra);
                break;
        }
    }

    private static void sameReading(String file, PortableFiles x, PlainReader due) {
        FAULTS[due.fault]++;
        Check.due(file + ": read", x.read(), due.answer());
        Check.due(file + ": told(0)", x.told(0), due.fault);
        if (due.fault != 0) {
            Check.dueThrow(file + ": found", Check.STATE, () -> x.found(0));
            return;
        }
        int[] tags = {-1, -1, -1};
        tags[0] = due.dataOf("gAMA") == null ? -1 : (int) PlainReader.number(due.dataOf("gAMA"), 0);
        tags[1] = due.dataOf("sRGB") == null ? -1 : due.dataOf("sRGB")[0];
        tags[2] = due.dataOf("pHYs") == null ? -1 : (int) PlainReader.number(due.dataOf("pHYs"), 0);
        int entries = due.kind == 3 ? due.dataOf("PLTE").length / 3 : 0;
        List<PlainReader.Chunk> extras = due.extras();
        int[] found = {due.width, due.height, due.bits, due.kind, entries, tags[0], tags[1], tags[2],
            extras.size(), due.count(true)};
        for (int what = 0; what < found.length; what++) {
            Check.due(file + ": found " + what, x.found(what), found[what]);
        }
        for (int k = 0; k < due.samples.size(); k++) {
            int pixel = k / due.channels;
            Check.due(file + ": at", x.at(pixel % due.width, pixel / due.width, k % due.channels),
                    due.samples.get(k));
        }
        int[] alphas = due.dataOf("tRNS");
        for (int k = 0; k < entries; k++) {
            for (int what = 0; what < 3; what++) {
                Check.due(file + ": entry", x.entry(k, what), due.dataOf("PLTE")[3 * k + what]);
            }
            int alpha = alphas != null && k < alphas.length ? alphas[k] : 255;
            Check.due(file + ": alpha", x.entry(k, 3), alpha);
        }
        for (int k = 0; k < extras.size(); k++) {
            Check.due(file + ": letters", x.unknown(k, -1), ChunkFile.letters(extras.get(k).letters));
            for (int i = 0; i < extras.get(k).data.length; i++) {
                Check.due(file + ": byte", x.unknown(k, i), extras.get(k).data[i]);
            }
        }
    }
}
