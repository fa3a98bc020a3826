import java.util.ArrayList;
import java.util.List;
import java.util.Random;

/** Runs of mixed calls on the program and on PlainModel; every answer and all words must agree. */
public final class ModelTest {
    private static final int RUNS = 3000;
    private static final int CALLS = 512;
    // All words cannot be asked within the calls of one object, so a short run is done again for each part of them.
    private static final int PART = 256;

    private final Random random;
    private final String name;
    // Runs differ in how far blocks, transactions and losses of power go.
    private final int largest;
    private final int commitIn;
    private final int powerIn;
    private final RedoHeap x = new RedoHeap();
    private final PlainModel m = new PlainModel();
    private final List<Check.CallOf> calls = new ArrayList<>();

    private ModelTest(int seed) {
        random = new Random(seed);
        name = "run " + seed;
        largest = new int[] {3, 12, 60, 400}[random.nextInt(4)];
        commitIn = new int[] {4, 10, 40, 120, 250}[random.nextInt(5)];
        powerIn = new int[] {12, 40, 200}[random.nextInt(3)];
    }

    public static void main(String[] args) {
        for (int seed = 1; seed <= RUNS; seed++) {
            new ModelTest(seed).run();
        }
        Check.done("ModelTest");
    }

    private void run() {
        boolean whole = random.nextInt(3) == 0;
        int length = whole ? CALLS : 1 + random.nextInt(CALLS - PART);
        for (int i = 0; i < length; i++) {
            if (!step()) {
                return;
            }
        }
        for (int from = 0; !whole && from < 1024; from += PART) {
            sameWords(from);
        }
    }

    private boolean step() {
        if (m.count(0) == 0 && random.nextInt(5) > 0) {
            if (random.nextInt(3) == 0) {
                return power();
            }
            return same("open()", o -> o.open(), () -> m.open());
        }
        if (m.count(1) == 0 && random.nextInt(3) > 0) {
            return same("begin()", o -> o.begin(), () -> m.begin());
        }
        if (random.nextInt(powerIn) == 0) {
            return random.nextInt(3) > 0 ? power() : cut();
        }
        if (random.nextInt(commitIn) == 0) {
            return end();
        }
        return random.nextInt(4) > 0 ? inside() : ask();
    }

    private boolean power() {
        int n = random.nextInt(6) == 0 ? random.nextInt(5003) - 1 : random.nextInt(1 + random.nextInt(300));
        int k = random.nextInt(20) == 0 ? random.nextInt(5003) - 1 : random.nextInt(1 + random.nextInt(250));
        return same("power(" + n + ", " + k + ")", o -> o.power(n, k), () -> m.power(n, k));
    }

    private boolean cut() {
        int k = random.nextInt(1 + random.nextInt(200)) - (random.nextInt(20) == 0 ? 1 : 0);
        return same("cut(" + k + ")", o -> o.cut(k), () -> m.cut(k));
    }

    private boolean end() {
        boolean sync = random.nextInt(3) == 0;
        switch (random.nextInt(8)) {
            case 0:
                return same("abort()", o -> o.abort(), () -> m.abort());
            case 1:
                return same("sync()", o -> o.sync(), () -> m.sync());
            case 2:
                return same("checkpoint()", o -> o.checkpoint(), () -> m.checkpoint());
            default:
                return same("commit(" + sync + ")", o -> o.commit(sync), () -> m.commit(sync));
        }
    }

    private boolean inside() {
        int address = someAddress();
        int i = someIndex(address);
        long v = random.nextInt(3) == 0 ? random.nextInt(3) - 1 : random.nextLong();
        int n = random.nextInt(60) == 0 ? random.nextInt(860) - 5 : 1 + random.nextInt(largest);
        switch (random.nextInt(8)) {
            case 0: case 1:
                return same("take(" + n + ")", o -> o.take(n), () -> m.take(n));
            case 2:
                return same("give(" + address + ")", o -> o.give(address), () -> m.give(address));
            case 3:
                return same("setRoot(" + address + ")", o -> o.setRoot(address), () -> m.setRoot(address));
            default:
                return same("set(" + address + ", " + i + ", " + v + ")",
                    o -> o.set(address, i, v), () -> m.set(address, i, v));
        }
    }

    private boolean ask() {
        int address = someAddress();
        int i = someIndex(address);
        int word = random.nextInt(1040) - 8;
        int what = random.nextInt(10) - 1;
        switch (random.nextInt(6)) {
            case 0:
                return same("get(" + address + ", " + i + ")", o -> o.get(address, i), () -> m.get(address, i));
            case 1:
                return same("root()", o -> o.root(), () -> m.root());
            case 2:
                return same("word(" + word + ")", o -> o.word(word), () -> m.word(word));
            case 3:
                return same("block(" + i + ", " + what / 2 + ")",
                    o -> o.block(i, what / 2), () -> m.block(i, what / 2));
            case 4:
                return same("told(" + what + ")", o -> o.told(what), () -> m.told(what));
            default:
                return same("count(" + what + ")", o -> o.count(what), () -> m.count(what));
        }
    }

    private int someAddress() {
        if (m.count(0) == 0 || random.nextInt(20) == 0) {
            return random.nextInt(1030) - 3;
        }
        return m.block(random.nextInt(m.told(2)), 0);
    }

    private int someIndex(int address) {
        return random.nextInt(15) == 0 ? random.nextInt(400) - 2 : random.nextInt(1 + random.nextInt(largest + 1));
    }

    private boolean same(String call, Check.CallOf got, Check.Call want) {
        calls.add(got);
        String is = Check.said(() -> got.answer(x));
        String due = Check.said(want);
        Check.due(name + ": call " + calls.size() + ", " + call, is, due);
        return is.equals(due);
    }

    private void sameWords(int from) {
        RedoHeap again = new RedoHeap();
        for (Check.CallOf call : calls) {
            Check.said(() -> call.answer(again));
        }
        for (int i = from; i < from + PART; i++) {
            Check.due(name + ": word " + i, again.word(i), m.word(i));
        }
    }
}
