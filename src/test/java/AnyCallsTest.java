import java.lang.reflect.Array;
import java.lang.reflect.Field;
import java.lang.reflect.Modifier;
import java.util.Arrays;

/** Any calls in any state: each throws only what the face names, never what the machine throws, and then changes nothing. */
public final class AnyCallsTest {
    private static final int[] EDGES = {
        Integer.MIN_VALUE, -2, -1, 0, 1, 2, 3, 4, 6, 8, 11, 12, 13, 15, 16, 63, 64, 255, 256, 2000,
        Integer.MAX_VALUE
    };

    private static int thrown = 0;

    public static void main(String[] args) {
        for (int seed = 1; seed <= 400; seed++) {
            anyCalls(new Numbers(seed), seed);
        }
        Check.due("many calls threw", thrown > 10000 ? 1 : 0, 1);
        Check.end();
    }

    private static void anyCalls(Numbers numbers, int seed) {
        PortableFiles x = new PortableFiles();
        for (int call = 0; call < 512; call++) {
            int method = numbers.below(22);
            long before = stateOf(x);
            String got = Check.thrownBy(() -> call(x, numbers, method));
            if (!got.equals("nothing thrown")) {
                thrown++;
                boolean named = Arrays.asList(named(method)).contains(got);
                Check.due("run " + seed + ", call " + call + ", method " + method + " threw " + got,
                        named ? 1 : 0, 1);
                Check.due("run " + seed + ", call " + call + ", method " + method + ": it changed nothing",
                        stateOf(x), before);
            }
        }
    }

    private static int edge(Numbers numbers) {
        return EDGES[numbers.below(EDGES.length)];
    }

    private static int small(Numbers numbers) {
        return numbers.once(8) ? edge(numbers) : numbers.below(4);
    }

    private static int octet(Numbers numbers) {
        return numbers.once(8) ? edge(numbers) : numbers.below(256);
    }

    private static void call(PortableFiles x, Numbers n, int method) {
        switch (method) {
            case 0: x.head(1 + small(n), 1 + small(n), n.of(1, 2, 4, 8, 8, 8), n.of(0, 2, 3, 3, 4, 6, 7)); break;
            case 1: x.colour(octet(n), octet(n), octet(n), octet(n)); break;
            case 2: x.put(small(n), small(n), small(n), n.of(0, 1, 255, octet(n))); break;
            case 3: x.tag(small(n), edge(n)); break;
            case 4: x.extra(ChunkFile.letters(n.once(2) ? "abCd" : n.once(2) ? "abCD" : "Abcd")); break;
            case 5: x.byteOf(small(n), octet(n)); break;
            case 6: x.reduce(); break;
            case 7: case 20: x.write(); break;
            case 8: x.byteAt(n.once(2) ? edge(n) : n.below(200)); break;
            case 9: x.feed(octet(n)); break;
            case 10: x.pass(n.of(0, 0, 0, edge(n)), n.of(2000, 2000, edge(n))); break;
            case 11: x.alter(n.once(4) ? edge(n) : n.below(120), octet(n), n.once(2)); break;
            case 12: case 21: x.read(); break;
            case 13: x.at(small(n), small(n), small(n)); break;
            case 14: x.found(n.once(3) ? edge(n) : n.below(10)); break;
            case 15: x.entry(small(n), small(n)); break;
            case 16: x.unknown(small(n), small(n) - 1); break;
            case 17: x.take(); break;
            case 18: x.told(edge(n)); break;
            default: x.drop(); break;
        }
    }

    private static String[] named(int method) {
        String state = Check.STATE.getName();
        String argument = Check.ARGUMENT.getName();
        String index = Check.INDEX.getName();
        String room = Check.ROOM.getName();
        switch (method) {
            case 0: return new String[] {argument};
            case 1: case 4: return new String[] {state, argument, room};
            case 2: case 15: return new String[] {state, index, argument};
            case 3: return new String[] {state, argument};
            case 5: return new String[] {state, index, argument, room};
            case 6: case 7: case 14: case 17: case 20: return new String[] {state};
            case 8: return new String[] {index};
            case 9: return new String[] {argument, room};
            case 10: return new String[] {index, argument, room};
            case 11: return new String[] {index, argument};
            case 13: case 16: return new String[] {state, index};
            default: return new String[] {};
        }
    }

    /** One number for all fields of an object and of what it holds. */
    private static long stateOf(Object holder) {
        long state = 17;
        try {
            for (Field f : holder.getClass().getDeclaredFields()) {
                if (!Modifier.isStatic(f.getModifiers())) {
                    f.setAccessible(true);
                    state = state * 1000003 + stateOfValue(f.getType(), f.get(holder));
                }
            }
        } catch (IllegalAccessException e) {
            throw new AssertionError(e);
        }
        return state;
    }

    private static long stateOfValue(Class<?> type, Object value) {
        if (type.isPrimitive()) {
            return value.hashCode();
        }
        if (!type.isArray()) {
            return stateOf(value);
        }
        if (value instanceof int[]) {
            return Arrays.hashCode((int[]) value);
        }
        long state = 19;
        for (int i = 0; i < Array.getLength(value); i++) {
            state = state * 1000003 + stateOfValue(type.getComponentType(), Array.get(value, i));
        }
        return state;
    }
}
