import java.util.function.Supplier;

/** Counts the answers that are not as due; a test ends with done(). */
final class Check {
    static final String STATE = "throws.IllegalStateException";
    static final String ARGUMENT = "throws.IllegalArgumentException";
    static final String INDEX = "throws.IndexOutOfBoundsException";

    /** A call that may throw. */
    interface Call {
        Object answer();
    }

    /** A call of some object that may throw. */
    interface CallOf {
        Object answer(RedoHeap x);
    }

    private static int wrong = 0;
    private static int asked = 0;
    private static String sentence = "";

    private Check() {
    }

    /** The document's words that the next answers are due by. */
    static void sentence(String words) {
        sentence = "\"" + words + "\": ";
    }

    static void due(String what, String got, String want) {
        asked++;
        if (!got.equals(want)) {
            wrong++;
            System.out.println(sentence + what + " answered " + got + ", due is " + want);
        }
    }

    static void due(String what, long got, long want) {
        due(what, String.valueOf(got), String.valueOf(want));
    }

    static void due(String what, boolean got, boolean want) {
        due(what, String.valueOf(got), String.valueOf(want));
    }

    static void throwsState(String what, Call call) {
        due(what, said(call), STATE);
    }

    static void throwsArgument(String what, Call call) {
        due(what, said(call), ARGUMENT);
    }

    static void throwsIndex(String what, Call call) {
        due(what, said(call), INDEX);
    }

    /** The call answers so, and the object shows and does thereafter what it would without the call. */
    static void refused(String what, Supplier<RedoHeap> maker, CallOf call, String want) {
        for (int part = 0; part < Probe.PARTS; part++) {
            RedoHeap left = maker.get();
            RedoHeap called = maker.get();
            due(what, said(() -> call.answer(called)), want);
            due(what + " changes nothing: part " + part, Probe.ask(called, part), Probe.ask(left, part));
        }
    }

    /** Both objects show and do the same thereafter. */
    static void alike(String what, Supplier<RedoHeap> one, Supplier<RedoHeap> other) {
        for (int part = 0; part < Probe.PARTS; part++) {
            due(what + ": part " + part, Probe.ask(one.get(), part), Probe.ask(other.get(), part));
        }
    }

    /** The answer as a text; exactly the class counts, not one above or below it. */
    static String said(Call call) {
        try {
            return String.valueOf(call.answer());
        } catch (RuntimeException e) {
            return "throws." + e.getClass().getSimpleName();
        }
    }

    static void done(String name) {
        System.out.println(name + ": " + asked + " answers, " + wrong + " not as due");
        if (wrong != 0 || asked == 0) {
            System.exit(1);
        }
    }
}
