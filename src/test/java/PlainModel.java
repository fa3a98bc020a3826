import java.util.ArrayList;
import java.util.List;
import java.util.Map;
import java.util.TreeMap;

/** The document's words, told again with lists and maps; nothing is kept that can be worked out. */
final class PlainModel {
    private static final class PowerGone extends Exception {
        private static final long serialVersionUID = 1L;
    }

    /** A block as a walk through the heap finds it. */
    private record Block(int address, int size, boolean used) {
    }

    private final long[] disk = new long[1024];
    private final List<long[]> waits = new ArrayList<>();
    private final List<TreeMap<Integer, Long>> log = new ArrayList<>();
    private TreeMap<Integer, Long> transaction = null;
    private boolean on = false;
    private int toldWrites = 0;
    private int toldKeeps = 0;
    private int writesSince = 0;
    private int lastNumber = 0;
    private final int[] counts = new int[7];

    private long latest(int i) {
        for (int w = waits.size() - 1; w >= 0; w--) {
            if (waits.get(w)[0] == i) {
                return waits.get(w)[1];
            }
        }
        return disk[i];
    }

    private long asItIs(int i) {
        for (int c = log.size() - 1; c >= 0; c--) {
            if (log.get(c).containsKey(i)) {
                return log.get(c).get(i);
            }
        }
        return latest(i);
    }

    private long asSeen(int i) {
        return transaction != null && transaction.containsKey(i) ? transaction.get(i) : asItIs(i);
    }

    private int logUsed() {
        int sum = 0;
        for (TreeMap<Integer, Long> commit : log) {
            sum += 2 + 2 * commit.size();
        }
        return sum;
    }

    private void write(int i, long v) throws PowerGone {
        waits.add(new long[] {i, v});
        counts[2]++;
        writesSince++;
        if (toldWrites > 0 && writesSince == toldWrites) {
            powerGoes(toldKeeps);
            throw new PowerGone();
        }
    }

    private void doSync() {
        for (long[] w : waits) {
            disk[(int) w[0]] = w[1];
        }
        waits.clear();
        counts[3]++;
    }

    private void powerGoes(int keeps) {
        for (int w = 0; w < waits.size(); w++) {
            if (w < keeps) {
                disk[(int) waits.get(w)[0]] = waits.get(w)[1];
            } else {
                counts[5]++;
            }
        }
        waits.clear();
        log.clear();
        transaction = null;
        on = false;
        toldWrites = 0;
        counts[4]++;
    }

    private void doCheckpoint(int clear) throws PowerGone {
        for (TreeMap<Integer, Long> commit : log) {
            for (Map.Entry<Integer, Long> change : commit.entrySet()) {
                write(change.getKey(), change.getValue());
            }
        }
        write(2, lastNumber);
        doSync();
        for (int i = 0; i < clear; i++) {
            write(16 + i, 0);
        }
        write(0, latest(0) + 1);
        doSync();
        log.clear();
    }

    private List<Block> blocks() {
        List<Block> all = new ArrayList<>();
        int at = 176;
        while (at < 1024) {
            long head = asSeen(at);
            all.add(new Block(at + 1, (int) (head / 2), head % 2 == 1));
            at += 1 + (int) (head / 2);
        }
        if (at != 1024) {
            throw new AssertionError("the heap does not end where it should");
        }
        return all;
    }

    private Block usedBlock(int address) {
        for (Block b : blocks()) {
            if (b.address() == address && b.used()) {
                return b;
            }
        }
        throw new IllegalArgumentException();
    }

    private boolean changeAll(TreeMap<Integer, Long> wanted) {
        TreeMap<Integer, Long> then = new TreeMap<>(transaction);
        for (Map.Entry<Integer, Long> w : wanted.entrySet()) {
            if (then.containsKey(w.getKey()) || asItIs(w.getKey()) != w.getValue()) {
                then.put(w.getKey(), w.getValue());
            }
        }
        if (then.size() > 96) {
            return false;
        }
        transaction = then;
        return true;
    }

    private boolean changeOne(int i, long v) {
        TreeMap<Integer, Long> wanted = new TreeMap<>();
        wanted.put(i, v);
        return changeAll(wanted);
    }

    private void state(boolean right) {
        if (!right) {
            throw new IllegalStateException();
        }
    }

    private void argument(boolean right) {
        if (!right) {
            throw new IllegalArgumentException();
        }
    }

    private void index(boolean right) {
        if (!right) {
            throw new IndexOutOfBoundsException();
        }
    }

    int begin() {
        state(on && transaction == null);
        transaction = new TreeMap<>();
        return lastNumber + 1;
    }

    int take(int n) {
        state(on && transaction != null);
        argument(n >= 1 && n <= 847);
        for (Block b : blocks()) {
            if (!b.used() && b.size() >= n) {
                TreeMap<Integer, Long> wanted = new TreeMap<>();
                if (b.size() >= n + 2) {
                    wanted.put(b.address() + n, 2L * (b.size() - n - 1));
                    wanted.put(b.address() - 1, 2L * n + 1);
                } else {
                    wanted.put(b.address() - 1, 2L * b.size() + 1);
                }
                return changeAll(wanted) ? b.address() : -1;
            }
        }
        return -1;
    }

    int give(int address) {
        state(on && transaction != null);
        Block given = usedBlock(address);
        List<Block> all = blocks();
        int i = all.indexOf(given);
        int start = given.address();
        int size = given.size();
        if (i + 1 < all.size() && !all.get(i + 1).used()) {
            size += 1 + all.get(i + 1).size();
        }
        if (i > 0 && !all.get(i - 1).used()) {
            start = all.get(i - 1).address();
            size += 1 + all.get(i - 1).size();
        }
        return changeOne(start - 1, 2L * size) ? size : -1;
    }

    boolean set(int address, int i, long v) {
        state(on && transaction != null);
        argument(i >= 0 && i < usedBlock(address).size());
        return changeOne(address + i, v);
    }

    long get(int address, int i) {
        state(on);
        argument(i >= 0 && i < usedBlock(address).size());
        return asSeen(address + i);
    }

    boolean setRoot(int address) {
        state(on && transaction != null);
        if (address != 0) {
            usedBlock(address);
        }
        return changeOne(1, address);
    }

    int root() {
        state(on);
        return (int) asSeen(1);
    }

    int commit(boolean sync) {
        state(on && transaction != null);
        try {
            return doCommit(sync);
        } catch (PowerGone e) {
            return -2;
        }
    }

    private int doCommit(boolean sync) throws PowerGone {
        int d = transaction.size();
        if (d == 0) {
            transaction = null;
            return lastNumber;
        }
        if (160 - logUsed() < 2 + 2 * d && !log.isEmpty()) {
            doCheckpoint(logUsed());
        }
        if (160 - logUsed() < 2 + 2 * d) {
            return -1;
        }
        int at = 16 + logUsed();
        write(at++, 4096 * latest(0) + d);
        for (Map.Entry<Integer, Long> change : transaction.entrySet()) {
            write(at++, change.getKey());
            write(at++, change.getValue());
        }
        write(at, -1 - (lastNumber + 1));
        if (sync) {
            doSync();
        }
        lastNumber++;
        log.add(transaction);
        transaction = null;
        return lastNumber;
    }

    int sync() {
        state(on);
        int waited = waits.size();
        doSync();
        return waited;
    }

    int abort() {
        state(on && transaction != null);
        int had = transaction.size();
        transaction = null;
        return had;
    }

    int checkpoint() {
        state(on && transaction == null);
        int had = log.size();
        try {
            if (had > 0) {
                doCheckpoint(logUsed());
            }
        } catch (PowerGone e) {
            return -2;
        }
        return had;
    }

    int power(int n, int k) {
        argument(n >= 0 && n <= 5000 && k >= 0 && k <= 5000);
        int before = toldWrites == 0 ? 0 : toldWrites - writesSince;
        toldWrites = n;
        toldKeeps = k;
        writesSince = 0;
        return before;
    }

    int cut(int k) {
        state(on);
        argument(k >= 0);
        int waited = waits.size();
        powerGoes(k);
        return waited;
    }

    int open() {
        state(!on);
        on = true;
        try {
            return doOpen();
        } catch (PowerGone e) {
            return -2;
        }
    }

    private int doOpen() throws PowerGone {
        if (disk[0] == 0) {
            write(176, 1694);
            write(1, 0);
            write(0, 1);
            doSync();
            lastNumber = (int) disk[2];
            return 0;
        }
        lastNumber = (int) disk[2];
        findCommits();
        int found = log.size();
        int clear = 160;
        while (clear > 0 && disk[15 + clear] == 0) {
            clear--;
        }
        if (clear > 0) {
            doCheckpoint(clear);
        }
        lastNumber = (int) disk[2];
        return found;
    }

    private void findCommits() {
        for (int at = 16; at < 176; at = 16 + logUsed()) {
            long d = disk[at] - 4096 * disk[0];
            if (d < 1 || d > 96 || at + 2 + 2 * d > 176 || disk[at + 1 + 2 * (int) d] >= 0) {
                return;
            }
            TreeMap<Integer, Long> commit = new TreeMap<>();
            for (int i = 0; i < d; i++) {
                commit.put((int) disk[at + 1 + 2 * i], disk[at + 2 + 2 * i]);
            }
            lastNumber = (int) (-1 - disk[at + 1 + 2 * (int) d]);
            log.add(commit);
        }
    }

    long word(int i) {
        index(i >= 0 && i < 1024);
        return disk[i];
    }

    int block(int i, int what) {
        state(on);
        index(what >= 0 && what <= 2);
        List<Block> all = blocks();
        if (i < 0 || i >= all.size()) {
            return -1;
        }
        Block b = all.get(i);
        return what == 0 ? b.address() : what == 1 ? b.size() : b.used() ? 1 : 0;
    }

    int told(int what) {
        state(on);
        index(what >= 0 && what <= 7);
        int sum = 0;
        int greatest = 0;
        for (Block b : blocks()) {
            sum += b.used() ? 0 : b.size();
            greatest = Math.max(greatest, b.used() ? 0 : b.size());
        }
        int changes = transaction == null ? 0 : transaction.size();
        int[] all = {sum, greatest, blocks().size(), logUsed(), log.size(), (int) latest(0), lastNumber, changes};
        return all[what];
    }

    int count(int what) {
        index(what >= 0 && what <= 6);
        counts[0] = on ? 1 : 0;
        counts[1] = transaction != null ? 1 : 0;
        counts[6] = waits.size();
        return counts[what];
    }
}
