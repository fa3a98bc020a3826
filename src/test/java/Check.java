/** Counts the answers that are not as due; a test ends with done(). */
final class Check {
    /** A call that may throw. */
    interface Call {
        Object answer();
    }

    private static int wrong = 0;
    private static int asked = 0;

    private Check() {
    }

    static void due(String what, long got, long want) {
        asked++;
        if (got != want) {
            wrong++;
            System.out.println(what + " answered " + got + ", due is " + want);
        }
    }

    static void due(String what, boolean got, boolean want) {
        due(what, got ? 1L : 0L, want ? 1L : 0L);
    }

    static void due(String what, String got, String want) {
        asked++;
        if (!got.equals(want)) {
            wrong++;
            System.out.println(what + " answered " + got + ", due is " + want);
        }
    }

    static void throwsState(String what, Call call) {
        due(what, said(call), "throws.IllegalStateException");
    }

    static void throwsArgument(String what, Call call) {
        due(what, said(call), "throws.IllegalArgumentException");
    }

    static void throwsIndex(String what, Call call) {
        due(what, said(call), "throws.IndexOutOfBoundsException");
    }

    /** The answer as a text; exactly the class counts, not one above or below it. */
    static String said(Call call) {
        try {
            return String.valueOf(call.answer());
        } catch (RuntimeException e) {
            return "throws." + e.getClass().getSimpleName();
        }
    }

    /** All that can be asked without changing anything, as one text. */
    static String picture(RedoHeap x) {
        StringBuilder text = new StringBuilder();
        for (int what = 0; what <= 6; what++) {
            text.append(x.count(what)).append(' ');
        }
        for (int i = 0; i < 1024; i++) {
            text.append(x.word(i)).append(' ');
        }
        if (x.count(0) == 1) {
            for (int what = 0; what <= 7; what++) {
                text.append(x.told(what)).append(' ');
            }
            text.append(x.root()).append(' ').append(heap(x));
        }
        return text.toString();
    }

    /** The blocks and the words of the used ones, as one text. */
    static String heap(RedoHeap x) {
        StringBuilder text = new StringBuilder();
        for (int i = 0; x.block(i, 0) != RedoHeap.NONE; i++) {
            int address = x.block(i, 0);
            int size = x.block(i, 1);
            boolean used = x.block(i, 2) == 1;
            text.append('[').append(address).append(' ').append(size).append(used ? " used" : " free");
            for (int k = 0; used && k < size; k++) {
                text.append(' ').append(x.get(address, k));
            }
            text.append(']');
        }
        return text.toString();
    }

    static void done(String name) {
        System.out.println(name + ": " + asked + " answers, " + wrong + " not as due");
        if (wrong != 0 || asked == 0) {
            System.exit(1);
        }
    }
}
