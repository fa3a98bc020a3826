import java.util.ArrayList;
import java.util.List;
import java.util.Random;

/** What the whole is for: after a loss of power the heap is what some commit left, none that was synced is lost. */
public final class CrashTest {
    private static final int RUNS = 3000;
    private static final int MOST_CALLS = 512;
    // A transaction of 12 steps, a checkpoint, a crash, and the heap asked twice take less than this.
    private static final int CALLS_OF_A_ROUND = 250;

    private final Random random;
    private final String name;
    private final RedoHeap heap = new RedoHeap();
    private int calls = 0;
    // The heap after each commit, by its number; the last one may be one that the power cut short.
    private final List<String> heaps = new ArrayList<>();
    private int safe = 0;

    private CrashTest(int seed) {
        random = new Random(seed);
        name = "crash run " + seed;
    }

    public static void main(String[] args) {
        for (int seed = 1; seed <= RUNS; seed++) {
            new CrashTest(seed).run();
        }
        Check.done("CrashTest");
    }

    private void run() {
        x().open();
        heaps.add(blocks());
        while (calls + CALLS_OF_A_ROUND <= MOST_CALLS) {
            transaction();
            if (random.nextInt(4) == 0 && x().count(0) == 1) {
                checkpoint();
            }
            if (x().count(0) == 0 || random.nextInt(5) == 0) {
                crash();
            }
        }
        Check.due(name + ": calls in all", calls <= MOST_CALLS, true);
    }

    private RedoHeap x() {
        calls++;
        return heap;
    }

    private void transaction() {
        int number = x().begin();
        int steps = 1 + random.nextInt(12);
        for (int i = 0; i < steps; i++) {
            step();
        }
        String then = blocks();
        boolean changed = x().told(7) > 0;
        if (random.nextInt(3) == 0) {
            x().power(1 + random.nextInt(200), random.nextInt(250));
        }
        boolean sync = random.nextBoolean();
        int answer = x().commit(sync);
        if (answer == RedoHeap.NONE) {
            x().abort();
        } else if (changed) {
            heaps.add(then);
            Check.due(name + ": commit", answer == RedoHeap.OFF || answer == number, true);
            safe = answer == number && sync ? number : safe;
        }
    }

    private void step() {
        int address = x().block(random.nextInt(x().told(2)), 0);
        try {
            switch (random.nextInt(5)) {
                case 0: case 1:
                    x().take(1 + random.nextInt(20));
                    break;
                case 2:
                    x().give(address);
                    break;
                case 3:
                    x().setRoot(address);
                    break;
                default:
                    x().set(address, 0, random.nextLong());
            }
        } catch (IllegalArgumentException e) {
            // The block is not used; the next step is another.
        }
    }

    private void checkpoint() {
        int last = x().told(6);
        if (x().checkpoint() != RedoHeap.OFF) {
            safe = last;
        }
    }

    private void crash() {
        if (x().count(0) == 1) {
            x().cut(random.nextInt(100));
        }
        for (int tries = 0; tries < 10 && random.nextInt(2) == 0 && x().count(0) == 0; tries++) {
            x().power(1 + random.nextInt(200), random.nextInt(200));
            x().open();
        }
        if (x().count(0) == 0) {
            x().power(0, 0);
            x().open();
        }
        x().power(0, 0);
        int number = x().told(6);
        Check.due(name + ": none that was synced is lost", number >= safe && number < heaps.size(), true);
        Check.due(name + ": the heap of commit " + number, blocks(), heaps.get(Math.min(number, heaps.size() - 1)));
        while (heaps.size() > number + 1) {
            heaps.remove(heaps.size() - 1);
        }
        safe = number;
    }

    /** The root, and each block with its first word, the only one that steps set. */
    private String blocks() {
        StringBuilder text = new StringBuilder();
        text.append(x().root());
        int n = x().told(2);
        for (int i = 0; i < n; i++) {
            int address = x().block(i, 0);
            boolean used = x().block(i, 2) == 1;
            text.append(' ').append(address).append(used ? " used " + x().get(address, 0) : " free");
        }
        return text.toString();
    }
}
