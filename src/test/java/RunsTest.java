import java.lang.reflect.InvocationTargetException;
import java.lang.reflect.Method;
import java.lang.reflect.Modifier;
import java.util.Arrays;
import java.util.HashMap;
import java.util.Map;
import java.util.TreeMap;

/** All promises together: long runs of calls, each answer against that of PlainFiles. */
public final class RunsTest {
    private static final int CALLS = 512;
    private static final int[] EDGES = {
        Integer.MIN_VALUE, -2, -1, 0, 1, 2, 3, 4, 7, 8, 11, 12, 13, 39, 40, 63, 64, 255, 256, 1999, 2000, 2001,
        Integer.MAX_VALUE
    };
    private static final String[] LETTERS = {"abCd", "xyZZ", "abCD", "zzAa", "gAMA", "tRNS", "abcd", "AbCd", "a1Cd"};

    private static final Map<String, Method> OF_CLASS = methodsOf(PortableFiles.class);
    private static final Map<String, Method> OF_PLAIN = methodsOf(PlainFiles.class);
    private static final int[] FAULTS = new int[9];
    private static final int[] LESSENED = {1, 2, 4, 8, 28, 31, 32, 34, 38, 48, 68};
    private static final Map<String, Integer> ANSWERED = new TreeMap<>();
    private static final Map<String, Integer> REFUSED = new TreeMap<>();

    private final Numbers n;
    private final int seed;
    private final PortableFiles x = new PortableFiles();
    private final PlainFiles plain = new PlainFiles();
    private int calls = 0;

    private RunsTest(int seed) {
        this.seed = seed;
        n = new Numbers(seed);
    }

    public static void main(String[] args) {
        for (int seed = 1; seed <= 2000; seed++) {
            new RunsTest(seed).run();
        }
        for (int fault = 0; fault <= 8; fault++) {
            Check.due("fault " + fault + " came often", FAULTS[fault] > 50 ? 1 : 0, 1);
        }
        for (int shape : LESSENED) {
            Check.due("reduce answered " + shape + " often", ANSWERED.getOrDefault("reduce " + shape, 0) > 50 ? 1 : 0, 1);
        }
        for (String name : OF_CLASS.keySet()) {
            Check.due(name + " answered often", ANSWERED.getOrDefault(name, 0) > 500 ? 1 : 0, 1);
            boolean mayRefuse = OF_CLASS.get(name).getExceptionTypes().length > 0;
            Check.due(name + " refused often", REFUSED.getOrDefault(name, 0) > 50 ? 1 : 0, mayRefuse ? 1 : 0);
        }
        Check.end();
    }

    private static Map<String, Method> methodsOf(Class<?> of) {
        Map<String, Method> methods = new HashMap<>();
        for (Method m : of.getDeclaredMethods()) {
            if (Modifier.isPublic(m.getModifiers())) {
                methods.put(m.getName(), m);
            }
        }
        return methods;
    }

    private void run() {
        while (calls < CALLS) {
            switch (n.below(14)) {
                case 0: begin(); break;
                case 1: colours(); break;
                case 2: case 3: paint(); break;
                case 4: paintWhatCanBeLess(); break;
                case 5: tags(); break;
                case 6: extras(); break;
                case 7: same("reduce"); break;
                case 8: case 9: writeAndFeed(); break;
                case 10: breakBytes(); break;
                case 11: read(); break;
                case 12: if (n.once(2)) same("take"); break;
                default: anything(); break;
            }
        }
    }

    /** One call on both; runs end with the last call that the document promises something for. */
    private void same(String name, Object... values) {
        if (calls >= CALLS) {
            return;
        }
        calls++;
        String due = answer(OF_PLAIN.get(name), plain, values);
        String got = answer(OF_CLASS.get(name), x, values);
        Check.due("run " + seed + ", call " + calls + ": " + name + Arrays.toString(values), got, due);
        (due.startsWith("java") ? REFUSED : ANSWERED).merge(name, 1, Integer::sum);
        if (name.equals("reduce")) {
            ANSWERED.merge("reduce " + due, 1, Integer::sum);
        }
    }

    private static String answer(Method method, Object of, Object... values) {
        try {
            return String.valueOf(method.invoke(of, values));
        } catch (InvocationTargetException e) {
            return e.getCause().getClass().getName();
        } catch (IllegalAccessException e) {
            throw new AssertionError(e);
        }
    }

    private int edge() {
        return EDGES[n.below(EDGES.length)];
    }

    private int mostly(int bound) {
        return n.once(30) ? edge() : n.below(Math.max(1, bound));
    }

    private void begin() {
        if (plain.picture != null && n.once(2)) {
            return;
        }
        int kind = n.of(0, 2, 3, 3, 4, 6, n.below(9));
        int side = n.of(2, 4, 12);
        int bits = kind == 0 || kind == 3 ? n.of(1, 2, 4, 8) : 8;
        same("head", 1 + mostly(side), 1 + mostly(side), n.once(20) ? edge() : bits, kind);
    }

    private void colours() {
        for (int k = n.of(1, 2, 5, n.below(40)); k > 0; k--) {
            same("colour", mostly(256), mostly(256), mostly(256), n.of(255, 255, mostly(256)));
        }
    }

    private void paint() {
        PlainFiles.Picture p = plain.picture;
        for (int k = n.below(9); k > 0; k--) {
            int most = p == null ? 2 : p.kind == 3 ? p.palette.size() : 1 << p.bits;
            int width = p == null ? 1 : p.width;
            int height = p == null ? 1 : p.height;
            same("put", mostly(width), mostly(height), mostly(p == null ? 1 : p.channels()), mostly(most));
        }
    }

    /** Opaque and grey for the most part, in steps that fewer bits may have. */
    private void paintWhatCanBeLess() {
        PlainFiles.Picture p = plain.picture;
        if (p == null || p.kind == 3 || p.width * p.height * p.channels() > 40) {
            return;
        }
        int step = n.of(255, 85, 17, 5, 3, 15);
        boolean grey = n.once(2);
        for (int y = 0; y < p.height; y++) {
            for (int x = 0; x < p.width; x++) {
                int v = step * n.below(256 / step) & (1 << p.bits) - 1;
                for (int channel = 0; channel < p.channels(); channel++) {
                    boolean alpha = p.kind > 3 && channel == p.channels() - 1;
                    same("put", x, y, channel, alpha ? (n.once(30) ? 254 : 255) : grey ? v : n.below(1 << p.bits));
                }
            }
        }
        if (n.once(2)) {
            same("reduce");
        }
    }

    private void tags() {
        same("tag", mostly(3), n.of(-1, 0, 1, 3, 4, edge()));
    }

    private void extras() {
        same("extra", ChunkFile.letters(LETTERS[n.below(n.once(3) ? LETTERS.length : 4)]));
        int many = plain.picture == null ? 0 : plain.picture.extras.size();
        int k = mostly(many);
        for (int i = n.of(0, 1, 3, 41); i > 0; i--) {
            same("byteOf", k, mostly(256));
        }
        same("told", 3);
    }

    private void writeAndFeed() {
        same("write");
        for (int k = n.below(3); k > 0; k--) {
            same("byteAt", mostly(plain.written.size()));
        }
        if (n.once(20)) {
            same("pass", mostly(2), 2000);
        } else {
            same("drop");
        }
        int cut = mostly(plain.written.size());
        if (n.once(3)) {
            same("pass", 0, cut);
            same("pass", cut, n.of(0, 2000, Integer.MAX_VALUE, edge()));
        } else {
            same("pass", 0, n.of(2000, 2000, edge(), plain.written.size() - 1));
        }
        if (n.once(5)) {
            same("feed", mostly(256));
        }
        read();
    }

    /** Mostly in the bytes around the data, where one byte decides much. */
    private void breakBytes() {
        for (int k = n.of(1, 1, 2, 4); k > 0; k--) {
            int i = n.once(2) ? mostly(plain.fed.size()) : n.below(60);
            int was = 0 <= i && i < plain.fed.size() ? plain.fed.get(i) : 0;
            same("alter", i, n.of(0, 1, was ^ 32, was ^ 1, mostly(256)), !n.once(4));
            if (n.once(2)) {
                read();
                same("alter", i, was, true);
            }
        }
        read();
    }

    private void read() {
        same("read");
        same("told", 0);
        FAULTS[plain.fault]++;
        PlainFiles.Picture p = plain.read;
        for (int k = n.below(4); k > 0; k--) {
            same("found", n.once(9) ? edge() : n.below(10));
            same("at", mostly(p == null ? 1 : p.width), mostly(p == null ? 1 : p.height),
                    mostly(p == null ? 1 : p.channels()));
            same("entry", mostly(p == null ? 1 : p.palette.size()), mostly(4));
            same("unknown", mostly(p == null ? 1 : p.extras.size()), n.of(-1, 0, mostly(40)));
        }
    }

    private void anything() {
        switch (n.below(9)) {
            case 0: same("feed", mostly(256)); break;
            case 1: same("pass", n.of(0, edge()), edge()); break;
            case 2: same("alter", edge(), mostly(256), n.once(2)); break;
            case 3: same("byteAt", edge()); break;
            case 4: same("tag", edge(), edge()); break;
            case 5: same("extra", edge()); break;
            case 6: same("drop"); break;
            case 7: same("write"); break;
            default:
                for (int what = -1; what <= 7; what++) {
                    same("told", what);
                }
                break;
        }
    }
}
