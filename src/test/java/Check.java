/** Counts and prints the answers of a test that are not the ones that are due. */
final class Check {
    static final Class<IllegalStateException> STATE = IllegalStateException.class;
    static final Class<IllegalArgumentException> ARGUMENT = IllegalArgumentException.class;
    static final Class<IndexOutOfBoundsException> INDEX = IndexOutOfBoundsException.class;
    static final Class<UnsupportedOperationException> ROOM = UnsupportedOperationException.class;

    /** Numbers that are far from all that the document tells, where sums and products wrap around. */
    static final int[] FAR = {
        Integer.MIN_VALUE, Integer.MIN_VALUE + 1, -65536, -256, 65536, 65537, 1 << 24, 1 << 30,
        Integer.MAX_VALUE - 1, Integer.MAX_VALUE
    };

    interface Call {
        void run();
    }

    private static String sentence = "";
    private static int sentences = 0;
    private static int asked = 0;
    private static int wrong = 0;

    /** The document's words that the answers from here on are asked for. */
    static void sentence(String words) {
        sentence = "\"" + words + "\": ";
        sentences++;
    }

    static void due(String call, long got, long want) {
        asked++;
        if (got != want) {
            wrong++;
            System.out.println(sentence + call + " answered " + got + ", due is " + want);
        }
    }

    static void due(String call, String got, String want) {
        asked++;
        if (!got.equals(want)) {
            wrong++;
            System.out.println(sentence + call + " answered " + got + ", due is " + want);
        }
    }

    /** The very class is due: one below it would be the machine's own exception. */
    static void dueThrow(String call, Class<? extends RuntimeException> want, Call run) {
        due(call, thrownBy(run), want.getName());
    }

    /** A call that may be, or else throws. */
    static void dueTaken(String call, boolean taken, Class<? extends RuntimeException> orElse, Call run) {
        due(call, thrownBy(run), taken ? "nothing thrown" : orElse.getName());
    }

    static String thrownBy(Call run) {
        try {
            run.run();
            return "nothing thrown";
        } catch (RuntimeException e) {
            return e.getClass().getName();
        }
    }

    static void end() {
        String of = sentences == 0 ? "" : " of " + sentences + " sentences";
        System.out.println(asked + " answers" + of + " asked, " + wrong + " not as due");
        if (wrong != 0 || asked == 0) {
            System.exit(1);
        }
    }
}
