import java.util.ArrayList;
import java.util.List;
import java.util.function.Supplier;

/** For each promise what is thrown or refused, at both sides of each limit; the object goes on as if not called. */
public final class RefusalTest {
    private static final int LEAST = Integer.MIN_VALUE;
    private static final int MOST = Integer.MAX_VALUE;

    public static void main(String[] args) {
        promise2Begin();
        promise3Take();
        promise3TakeNone();
        promise3TakeNoneWithAChangedRest();
        promise4Give();
        promise4GiveNone();
        promise5Set();
        promise5SetNot();
        promise6Get();
        promise7SetRoot();
        promise7SetRootNot();
        promise8Root();
        promise9Commit();
        promise10Sync();
        promise11Abort();
        promise12Checkpoint();
        promise13Power();
        promise14Cut();
        promise15Open();
        promise16Word();
        promise17Block();
        promise18Told();
        promise19Count();
        theOneNamedFirst();
        nothingButACheckpoint();
        Check.done("RefusalTest");
    }

    /** Off as at first, by a cut, by what was told, and by what was told of opening. */
    private static List<Supplier<RedoHeap>> off() {
        List<Supplier<RedoHeap>> all = new ArrayList<>();
        all.add(() -> new RedoHeap());
        all.add(() -> cutShort());
        all.add(() -> goneInCommit());
        all.add(() -> goneInOpening());
        return all;
    }

    private static RedoHeap cutShort() {
        RedoHeap x = Heaps.withTwoCommits();
        x.begin();
        x.setRoot(177);
        x.cut(0);
        x.power(40, 3);
        return x;
    }

    private static RedoHeap goneInCommit() {
        RedoHeap x = Heaps.withTwoCommits();
        x.power(3, 2);
        Heaps.commit(x, 1, 5, true);
        return x;
    }

    private static RedoHeap goneInOpening() {
        RedoHeap x = Heaps.withTwoCommits();
        x.cut(0);
        x.power(7, 1);
        x.open();
        return x;
    }

    /** Writes wait, the power is told to go, and no transaction is open. */
    private static RedoHeap idle() {
        RedoHeap x = Heaps.withTwoCommits();
        Heaps.commit(x, 1, 10, false);
        x.power(30, 4);
        return x;
    }

    /** The same, with a transaction: blocks of 200 (177) and 3 (378) are used, one of 642 (382) is not. */
    private static RedoHeap busy() {
        RedoHeap x = idle();
        x.begin();
        x.take(3);
        x.set(378, 1, 44);
        return x;
    }

    private static void throwsOff(String what, Check.CallOf call) {
        for (Supplier<RedoHeap> maker : off()) {
            Check.refused(what + ", off", maker, call, Check.STATE);
        }
    }

    private static void throwsIdle(String what, Check.CallOf call) {
        Check.refused(what + ", no transaction", () -> idle(), call, Check.STATE);
        Check.refused(what + ", opened just now", () -> Heaps.opened(), call, Check.STATE);
    }

    private static void throwsBusy(String what, Check.CallOf call) {
        Check.refused(what + ", a transaction is open", () -> busy(), call, Check.STATE);
        Check.refused(what + ", one without changes is open", () -> Heaps.begun(), call, Check.STATE);
    }

    private static void promise2Begin() {
        Check.sentence("IllegalStateException: the power is off, or one is open.");
        throwsOff("begin()", x -> x.begin());
        throwsBusy("begin()", x -> x.begin());
    }

    private static void promise3Take() {
        Check.sentence("IllegalStateException: the power is off, or no TRANSACTION is open. "
            + "IllegalArgumentException: n is not 1 .. 847.");
        throwsOff("take(1)", x -> x.take(1));
        throwsIdle("take(1)", x -> x.take(1));
        for (int n : new int[] {0, -1, 848, LEAST, MOST}) {
            Check.refused("take(" + n + ")", () -> busy(), x -> x.take(n), Check.ARGUMENT);
        }
        Check.due("take(1)", busy().take(1), 382);
        Check.due("take(847)", Heaps.begun().take(847), 177);
    }

    private static void promise3TakeNone() {
        Check.sentence("NONE when there is none, or its CHANGES are too many.");
        Check.refused("one more than is free", () -> busy(), x -> x.take(643), "-1");
        Check.refused("all, of a heap in use", () -> busy(), x -> x.take(847), "-1");
        Check.refused("a full heap", () -> Heaps.row(847), x -> x.take(1), "-1");
        Check.refused("free in two parts", () -> freeInTwoParts(), x -> x.take(6), "-1");
        Check.refused("both heads, with 96", () -> Heaps.changing(96), x -> x.take(1), "-1");
        Check.refused("both heads, with 95", () -> Heaps.changing(95), x -> x.take(1), "-1");
        Check.refused("one head, with 96", () -> Heaps.changing(96), x -> x.take(646), "-1");
        Check.due("both heads, with 94", Heaps.changing(94).take(1), 378);
        Check.due("one head, with 95", Heaps.changing(95).take(646), 378);
        Check.due("as much as is free", busy().take(642), 382);
        Check.due("as much as one part has", freeInTwoParts().take(5), 177);
    }

    private static void promise3TakeNoneWithAChangedRest() {
        Check.sentence("a call that throws, or answers NONE, changes nothing (but for a CHECKPOINT of a COMMIT).");
        Check.refused("only the new head has a change, with 96", () -> changeInFree(96), x -> x.take(4), "-1");
        RedoHeap x = changeInFree(96);
        x.take(4);
        x.give(177);
        Check.due("all again, by a head that has a change", x.take(26), 177);
        Check.due("where the new head would have been", x.get(177, 10), 5);
        Check.due("with 95", changeInFree(95).take(4), 183);
    }

    /** So many changes; in a block of 20 at 183 that is not used, and has none of its head, WORD 187 became 5. */
    private static RedoHeap changeInFree(int n) {
        RedoHeap x = Heaps.row(5, 20, 200);
        x.give(183);
        x.commit(true);
        x.begin();
        x.give(177);
        x.take(26);
        x.set(177, 10, 5);
        x.give(177);
        x.take(5);
        for (int i = x.told(7); i < n; i++) {
            x.set(204, i, 5);
        }
        return x;
    }

    private static RedoHeap freeInTwoParts() {
        RedoHeap x = Heaps.row(5, 835, 5);
        x.give(177);
        x.give(1019);
        return x;
    }

    private static void promise4Give() {
        Check.sentence("IllegalStateException: the power is off, or no TRANSACTION is open. "
            + "IllegalArgumentException: no USED BLOCK has this ADDRESS.");
        throwsOff("give(177)", x -> x.give(177));
        throwsIdle("give(177)", x -> x.give(177));
        for (int address : notUsed()) {
            Check.refused("give(" + address + ")", () -> busy(), x -> x.give(address), Check.ARGUMENT);
        }
        Check.refused("given back before", () -> givenBack(), x -> x.give(378), Check.ARGUMENT);
        Check.refused("a part of another", () -> givenBack(), x -> x.give(382), Check.ARGUMENT);
        Check.due("the first one", busy().give(177), 200);
        Check.due("the last one in use", busy().give(378), 646);
    }

    /** Below, a head, within a body, the body's end, a head, one that is not used, the heap's end, far off. */
    private static int[] notUsed() {
        return new int[] {0, -1, 1, 16, 175, 176, 178, 376, 377, 379, 381, 382, 1023, 1024, 1025, LEAST, MOST};
    }

    private static RedoHeap givenBack() {
        RedoHeap x = busy();
        x.give(378);
        return x;
    }

    private static void promise4GiveNone() {
        Check.sentence("NONE when the CHANGE is one too many.");
        Check.refused("with 96", () -> Heaps.changing(96), x -> x.give(177), "-1");
        Check.due("with 95", Heaps.changing(95).give(177), 847);
        Check.refused("the one before it has no change", () -> behindFree(false), x -> x.give(378), "-1");
        Check.due("the one before it has a change", behindFree(true).give(378), 847);
    }

    /** 96 changes; a block of 100 (378) behind one of 200 that was given back, in this transaction or before it. */
    private static RedoHeap behindFree(boolean inThis) {
        RedoHeap x = Heaps.row(200, 100);
        x.give(177);
        if (!inThis) {
            x.commit(true);
            x.begin();
        }
        for (int i = x.told(7); i < 96; i++) {
            x.set(378, i, 5);
        }
        return x;
    }

    private static void promise5Set() {
        Check.sentence("IllegalStateException: the power is off, or no TRANSACTION is open. "
            + "IllegalArgumentException: no USED BLOCK has this ADDRESS, or it has no such WORD.");
        throwsOff("set(177, 0, 1)", x -> x.set(177, 0, 1));
        throwsIdle("set(177, 0, 1)", x -> x.set(177, 0, 1));
        for (int address : notUsed()) {
            Check.refused("set(" + address + ", 0, 1)", () -> busy(), x -> x.set(address, 0, 1), Check.ARGUMENT);
        }
        for (int i : noSuchWord()) {
            Check.refused("set(378, " + i + ", 1)", () -> busy(), x -> x.set(378, i, 1), Check.ARGUMENT);
        }
        Check.refused("given back before", () -> givenBack(), x -> x.set(378, 1, 1), Check.ARGUMENT);
        Check.due("its first word", busy().set(378, 0, 1), true);
        Check.due("its last word", busy().set(378, 2, 1), true);
        Check.due("the heap's last word", Heaps.row(847).set(177, 846, 1), true);
        Check.throwsArgument("behind the heap", () -> Heaps.row(847).set(177, 847, 1));
    }

    /** For a block of 3 at 378; sums with the address that pass the greatest int among them. */
    private static int[] noSuchWord() {
        return new int[] {-1, 3, 4, -378, -201, 646, MOST, MOST - 378, MOST - 377, LEAST, LEAST + 378};
    }

    private static void promise5SetNot() {
        Check.sentence("Answers whether it does (not, when it is one too many).");
        Check.refused("the 97th", () -> Heaps.changing(96), x -> x.set(177, 96, 1), "false");
        Check.refused("the 97th, the last word", () -> Heaps.changing(96), x -> x.set(177, 199, -1), "false");
        Check.due("the 96th", Heaps.changing(95).set(177, 96, 1), true);
        Check.due("one of the 96", Heaps.changing(96).set(177, 95, 1), true);
        Check.refused("to what it is", () -> Heaps.changing(96), x -> x.set(177, 96, 0), "true");
        Check.throwsArgument("no such word, with 96", () -> Heaps.changing(96).set(177, 200, 1));
    }

    private static void promise6Get() {
        Check.sentence("IllegalStateException: the power is off. "
            + "IllegalArgumentException: no USED BLOCK has this ADDRESS, or it has no such WORD.");
        throwsOff("get(177, 0)", x -> x.get(177, 0));
        for (int address : notUsed()) {
            Check.refused("get(" + address + ", 0)", () -> busy(), x -> x.get(address, 0), Check.ARGUMENT);
            Check.refused("get(" + address + ", 0)", () -> idle(), x -> x.get(address, 0), Check.ARGUMENT);
        }
        for (int i : noSuchWord()) {
            Check.refused("get(378, " + i + ")", () -> busy(), x -> x.get(378, i), Check.ARGUMENT);
        }
        Check.refused("taken, but not committed", () -> aborted(), x -> x.get(378, 0), Check.ARGUMENT);
        Check.refused("given back before", () -> givenBack(), x -> x.get(378, 1), Check.ARGUMENT);
        Check.refused("get itself", () -> busy(), x -> x.get(378, 1), "44");
        Check.due("its first word", busy().get(378, 0), 0);
        Check.due("its last word", busy().get(378, 2), 0);
        Check.due("without a transaction", idle().get(177, 0), 10);
    }

    private static RedoHeap aborted() {
        RedoHeap x = busy();
        x.abort();
        return x;
    }

    private static void promise7SetRoot() {
        Check.sentence("IllegalStateException: the power is off, or no TRANSACTION is open. "
            + "IllegalArgumentException: it is not 0, and no USED BLOCK has it.");
        throwsOff("setRoot(0)", x -> x.setRoot(0));
        throwsIdle("setRoot(0)", x -> x.setRoot(0));
        for (int address : notUsed()) {
            if (address != 0) {
                Check.refused("setRoot(" + address + ")", () -> busy(), x -> x.setRoot(address), Check.ARGUMENT);
            }
        }
        Check.refused("given back before", () -> givenBack(), x -> x.setRoot(378), Check.ARGUMENT);
        Check.due("0", busy().setRoot(0), true);
        Check.due("the first one", busy().setRoot(177), true);
        Check.due("the last one in use", busy().setRoot(378), true);
    }

    private static void promise7SetRootNot() {
        Check.sentence("Answers whether it does (not, when it is one too many).");
        Check.refused("the 97th", () -> Heaps.changing(96), x -> x.setRoot(177), "false");
        Check.due("the 96th", Heaps.changing(95).setRoot(177), true);
        Check.refused("0, as it is", () -> Heaps.changing(96), x -> x.setRoot(0), "true");
        RedoHeap x = Heaps.changing(95);
        x.setRoot(177);
        Check.due("0 as one of the 96", x.setRoot(0), true);
        Check.due("root", x.root(), 0);
        RedoHeap y = Heaps.row(200);
        y.setRoot(177);
        y.commit(true);
        Heaps.change(y, 96, 7);
        Check.due("0 as the 97th", y.setRoot(0), false);
        Check.due("root", y.root(), 177);
        Check.due("177, as it is", y.setRoot(177), true);
    }

    private static void promise8Root() {
        Check.sentence("IllegalStateException: the power is off.");
        throwsOff("root()", x -> x.root());
        Check.refused("root itself", () -> busy(), x -> x.root(), "0");
    }

    private static void promise9Commit() {
        Check.sentence("IllegalStateException: the power is off, or no TRANSACTION is open.");
        throwsOff("commit(true)", x -> x.commit(true));
        throwsIdle("commit(true)", x -> x.commit(true));
        throwsIdle("commit(false)", x -> x.commit(false));
        Check.sentence("NONE when it is refused (the TRANSACTION stays open)");
        Check.refused("80 words", () -> Heaps.changing(80), x -> x.commit(false), "-1");
        RedoHeap x = Heaps.changing(80);
        x.commit(true);
        Check.due("open", x.count(1), 1);
        Check.due("changes", x.abort(), 80);
        Check.due("79 words", Heaps.changing(79).commit(false), 2);
    }

    private static void promise10Sync() {
        Check.sentence("IllegalStateException: the power is off.");
        throwsOff("sync()", x -> x.sync());
    }

    private static void promise11Abort() {
        Check.sentence("IllegalStateException: the power is off, or none is open.");
        throwsOff("abort()", x -> x.abort());
        throwsIdle("abort()", x -> x.abort());
    }

    private static void promise12Checkpoint() {
        Check.sentence("IllegalStateException: the power is off, or a TRANSACTION is open.");
        throwsOff("checkpoint()", x -> x.checkpoint());
        throwsBusy("checkpoint()", x -> x.checkpoint());
    }

    private static void promise13Power() {
        Check.sentence("IllegalArgumentException: n is not 0 .. 5000, or k not 0 .. 5000.");
        int[][] wrong = {{-1, 0}, {5001, 0}, {LEAST, 0}, {MOST, 0}, {0, -1}, {0, 5001}, {0, LEAST}, {0, MOST},
            {5, -1}, {5, 5001}, {-1, 5}, {5001, 5000}, {5000, 5001}, {-1, -1}, {5001, 5001}};
        List<Supplier<RedoHeap>> states = off();
        states.add(() -> idle());
        states.add(() -> busy());
        for (int[] w : wrong) {
            for (Supplier<RedoHeap> maker : states) {
                Check.refused("power(" + w[0] + ", " + w[1] + ")", maker, x -> x.power(w[0], w[1]), Check.ARGUMENT);
            }
        }
        int[][] right = {{0, 0}, {1, 0}, {0, 1}, {5000, 0}, {0, 5000}, {5000, 5000}};
        for (int[] r : right) {
            RedoHeap x = Heaps.opened();
            Check.due("power(" + r[0] + ", " + r[1] + ")", x.power(r[0], r[1]), 0);
            Check.due("is told", x.power(0, 0), r[0]);
        }
    }

    private static void promise14Cut() {
        Check.sentence("IllegalStateException: it is off. IllegalArgumentException: k is below 0.");
        throwsOff("cut(0)", x -> x.cut(0));
        for (int k : new int[] {-1, LEAST}) {
            Check.refused("cut(" + k + ")", () -> idle(), x -> x.cut(k), Check.ARGUMENT);
            Check.refused("cut(" + k + ")", () -> busy(), x -> x.cut(k), Check.ARGUMENT);
        }
        for (int k : new int[] {0, 1, 5001, MOST}) {
            Check.due("cut(" + k + ")", idle().cut(k), 4);
        }
    }

    private static void promise15Open() {
        Check.sentence("IllegalStateException: the power is on.");
        Check.refused("open(), no transaction", () -> idle(), x -> x.open(), Check.STATE);
        Check.refused("open(), a transaction", () -> busy(), x -> x.open(), Check.STATE);
        Check.refused("open(), opened just now", () -> Heaps.opened(), x -> x.open(), Check.STATE);
    }

    private static void promise16Word() {
        Check.sentence("IndexOutOfBoundsException: there is none.");
        List<Supplier<RedoHeap>> states = off();
        states.add(() -> busy());
        for (int i : new int[] {-1, 1024, 1025, LEAST, MOST}) {
            for (Supplier<RedoHeap> maker : states) {
                Check.refused("word(" + i + ")", maker, x -> x.word(i), Check.INDEX);
            }
        }
        Check.due("word(0)", busy().word(0), 2);
        Check.due("word(1023)", busy().word(1023), 0);
    }

    private static void promise17Block() {
        Check.sentence("IllegalStateException: the power is off. IndexOutOfBoundsException: another what.");
        throwsOff("block(0, 0)", x -> x.block(0, 0));
        for (int what : new int[] {-1, 3, LEAST, MOST}) {
            Check.refused("block(0, " + what + ")", () -> busy(), x -> x.block(0, what), Check.INDEX);
            Check.refused("block(3, " + what + ")", () -> busy(), x -> x.block(3, what), Check.INDEX);
        }
        Check.sentence("NONE when there is none.");
        for (int what = 0; what <= 2; what++) {
            int w = what;
            for (int i : new int[] {-1, 3, 4, LEAST, MOST}) {
                Check.refused("block(" + i + ", " + w + ")", () -> busy(), x -> x.block(i, w), "-1");
            }
        }
        Check.due("the first one", busy().block(0, 0), 177);
        Check.due("the last one", busy().block(2, 0), 382);
        Check.due("its size", busy().block(2, 1), 642);
        Check.due("whether it is used", busy().block(2, 2), 0);
        Check.due("one that the transaction took", busy().block(1, 2), 1);
    }

    private static void promise18Told() {
        Check.sentence("IllegalStateException: the power is off. IndexOutOfBoundsException: another what.");
        for (int what : new int[] {-1, 8, LEAST, MOST}) {
            Check.refused("told(" + what + ")", () -> busy(), x -> x.told(what), Check.INDEX);
        }
        long[] told = {642, 642, 3, 14, 3, 2, 4, 3};
        for (int what = 0; what <= 7; what++) {
            int w = what;
            throwsOff("told(" + w + ")", x -> x.told(w));
            Check.refused("told(" + w + ")", () -> busy(), x -> x.told(w), String.valueOf(told[w]));
        }
    }

    private static void promise19Count() {
        Check.sentence("IndexOutOfBoundsException: another what.");
        List<Supplier<RedoHeap>> states = off();
        states.add(() -> busy());
        for (int what : new int[] {-1, 7, LEAST, MOST}) {
            for (Supplier<RedoHeap> maker : states) {
                Check.refused("count(" + what + ")", maker, x -> x.count(what), Check.INDEX);
            }
        }
        for (Supplier<RedoHeap> maker : off()) {
            Check.due("count(0), off", maker.get().count(0), 0);
            Check.due("count(6), off", maker.get().count(6), 0);
        }
    }

    private static void theOneNamedFirst() {
        Check.sentence("Methods throw what their comments name, the one named first when several would do");
        throwsOff("take(0)", x -> x.take(0));
        throwsIdle("take(848)", x -> x.take(848));
        throwsOff("give(0)", x -> x.give(0));
        throwsIdle("give(-1)", x -> x.give(-1));
        throwsOff("set(0, -1, 0)", x -> x.set(0, -1, 0));
        throwsIdle("set(0, -1, 0)", x -> x.set(0, -1, 0));
        throwsOff("get(0, -1)", x -> x.get(0, -1));
        throwsOff("setRoot(-1)", x -> x.setRoot(-1));
        throwsIdle("setRoot(-1)", x -> x.setRoot(-1));
        throwsOff("cut(-1)", x -> x.cut(-1));
        throwsOff("block(-1, 3)", x -> x.block(-1, 3));
        throwsOff("told(8)", x -> x.told(8));
    }

    private static void nothingButACheckpoint() {
        Check.sentence("a call that throws, or answers NONE, changes nothing (but for a CHECKPOINT of a COMMIT).");
        for (int n : new int[] {80, 96}) {
            Check.alike("a refused commit is a checkpoint", () -> refusedCommit(n), () -> afterCheckpoint(n));
        }
    }

    private static RedoHeap refusedCommit(int n) {
        RedoHeap x = idle();
        Heaps.change(x, n, 6);
        Check.due("commit", x.commit(true), -1);
        return x;
    }

    private static RedoHeap afterCheckpoint(int n) {
        RedoHeap x = idle();
        x.checkpoint();
        Heaps.change(x, n, 6);
        return x;
    }
}
