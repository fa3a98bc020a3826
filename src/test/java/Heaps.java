/** Objects in the states from which tests start. */
final class Heaps {
    private Heaps() {
    }

    static RedoHeap opened() {
        RedoHeap x = new RedoHeap();
        x.open();
        return x;
    }

    static RedoHeap begun() {
        RedoHeap x = opened();
        x.begin();
        return x;
    }

    /** A transaction, and blocks of these sizes from 177 on that are in their places; GENERATION 2, the last commit 1. */
    static RedoHeap row(int... sizes) {
        RedoHeap x = begun();
        for (int size : sizes) {
            x.take(size);
        }
        x.commit(true);
        x.checkpoint();
        x.begin();
        return x;
    }

    /** A block of 200 at 177 that is in its place; the log is empty, GENERATION 2, the last commit 1. */
    static RedoHeap withBlock() {
        RedoHeap x = row(200);
        x.abort();
        return x;
    }

    /** Sets so many words of the block at 177 in a new transaction. */
    static void change(RedoHeap x, int n, long v) {
        x.begin();
        for (int i = 0; i < n; i++) {
            x.set(177, i, v);
        }
    }

    /** Sets so many words of the block at 177, and commits; the answer is the commit's. */
    static int commit(RedoHeap x, int n, long v, boolean sync) {
        change(x, n, v);
        return x.commit(sync);
    }

    /** The block of withBlock, and a transaction in which so many of its words became 7. */
    static RedoHeap changing(int n) {
        RedoHeap x = withBlock();
        change(x, n, 7);
        return x;
    }

    /** The block of withBlock; in the log are two synced commits, of 1 word (8) and of 2 words (9). */
    static RedoHeap withTwoCommits() {
        RedoHeap x = withBlock();
        commit(x, 1, 8, true);
        commit(x, 2, 9, true);
        return x;
    }
}
