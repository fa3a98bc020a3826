/** Promises 9, 10, 12, 17, 18: commits, syncs, checkpoints, and what is told of the heap and the log. */
public final class LogTest {
    public static void main(String[] args) {
        promise9Commit();
        promise9CommitNeedsRoom();
        promise9CommitRefused();
        promise9CommitLosesPower();
        promise10Sync();
        promise12Checkpoint();
        promise12CheckpointOfFullLog();
        promise12CheckpointLosesPower();
        promise17Block();
        promise18Told();
        Check.done("LogTest");
    }

    private static void promise9Commit() {
        RedoHeap x = new RedoHeap();
        Check.throwsState("9: commit, off", () -> x.commit(true));
        x.open();
        Check.throwsState("9: commit, no transaction", () -> x.commit(true));
        x.begin();
        int syncs = x.count(3);
        Check.due("9: without changes", x.commit(true), 0);
        Check.due("9: no sync", x.count(3), syncs);
        Check.due("9: no writes", x.count(2), 3);
        Check.due("9: closed", x.count(1), 0);
        x.begin();
        x.take(2);
        x.setRoot(177);
        Check.due("9: commit(false)", x.commit(false), 1);
        Check.due("9: closed", x.count(1), 0);
        Check.due("9: it waits", x.count(6), 8);
        Check.due("9: not on the disk", x.word(16), 0);
        Check.due("9: used", x.told(3), 8);
        Check.due("9: commits", x.told(4), 1);
        x.begin();
        x.set(177, 1, -4);
        Check.due("9: commit(true)", x.commit(true), 2);
        Check.due("9: nothing waits", x.count(6), 0);
        Check.due("9: one sync", x.count(3), syncs + 1);
        long[] log = {4099, 1, 177, 176, 5, 179, 2 * 844, -2, 4097, 178, -4, -3, 0};
        for (int i = 0; i < log.length; i++) {
            Check.due("9: word " + (16 + i), x.word(16 + i), log[i]);
        }
        Check.throwsState("9: commit twice", () -> x.commit(true));
        x.begin();
        Check.due("9: without changes the last one's number", x.commit(false), 2);
    }

    private static void promise9CommitNeedsRoom() {
        RedoHeap x = Heaps.withBlock();
        Heaps.change(x, 77, 1);
        Check.due("9: 156 words", x.commit(false), 2);
        Heaps.change(x, 1, 2);
        Check.due("9: and 4: full, without a checkpoint", x.commit(false), 3);
        Check.due("9: used", x.told(3), 160);
        Check.due("9: generation", x.told(5), 2);
        int writes = x.count(2);
        int syncs = x.count(3);
        Heaps.change(x, 1, 3);
        Check.due("9: a checkpoint first", x.commit(false), 4);
        Check.due("9: used", x.told(3), 4);
        Check.due("9: commits", x.told(4), 1);
        Check.due("9: generation", x.told(5), 3);
        Check.due("9: writes", x.count(2) - writes, 78 + 1 + 160 + 1 + 4);
        Check.due("9: syncs", x.count(3) - syncs, 2);
        Check.due("9: waiting", x.count(6), 4);
        Check.due("9: in its place", x.word(177), 2);
        Check.due("9: as it is", x.get(177, 0), 3);
        x.sync();
        Check.due("9: the new generation's front", x.word(16), 3 * 4096 + 1);
        Check.due("9: back", x.word(19), -5);
    }

    private static void promise9CommitRefused() {
        RedoHeap x = Heaps.withBlock();
        Heaps.change(x, 79, 1);
        Check.due("9: 79 have room", x.commit(true), 2);
        Check.due("9: used", x.told(3), 160);
        x.checkpoint();
        Heaps.change(x, 80, 2);
        Check.due("9: 80 are refused", x.commit(true), -1);
        Check.due("9: open still", x.count(1), 1);
        x.abort();
        Heaps.change(x, 1, 5);
        x.commit(true);
        Heaps.change(x, 96, 6);
        Check.due("9: 96 are refused", x.commit(true), -1);
        Check.due("9: but the checkpoint is done", x.told(4), 0);
        Check.due("9: its generation", x.told(5), 4);
        Check.due("9: its number", x.word(2), 3);
        Check.due("9: the changes stay", x.told(7), 96);
        Check.due("9: the values too", x.get(177, 95), 6);
        x.abort();
        Check.due("9: as it was", x.get(177, 0), 5);
    }

    private static void promise9CommitLosesPower() {
        for (int n = 1; n <= 8; n++) {
            for (int k = 0; k <= 9; k++) {
                RedoHeap x = Heaps.withBlock();
                Heaps.change(x, 3, 7);
                x.power(n, k);
                Check.due("9: the power goes", x.commit(true), -2);
                Check.due("9: off", x.count(0), 0);
                Check.due("9: the transaction is lost", x.count(1), 0);
                Check.due("9: lost writes", x.count(5), Math.max(0, n - k));
                Check.due("9: the front", x.word(16), k > 0 ? 2 * 4096 + 3 : 0);
                Check.due("9: found", x.open(), n == 8 && k >= 8 ? 1 : 0);
                Check.due("9: all or nothing", x.get(177, 2), n == 8 && k >= 8 ? 7 : 0);
                Check.due("9: its number", x.told(6), n == 8 && k >= 8 ? 2 : 1);
                Check.due("9: generation", x.told(5), k > 0 ? 3 : 2);
            }
        }
        RedoHeap y = Heaps.withBlock();
        Heaps.change(y, 3, 7);
        y.power(9, 0);
        Check.due("9: one write more than there are", y.commit(true), 2);
        Check.due("9: it is still to go", y.power(0, 0), 1);
        Heaps.change(y, 79, 8);
        y.power(1, 0);
        Check.due("9: the power goes in its checkpoint", y.commit(true), -2);
        Check.due("9: found", y.open(), 1);
        Check.due("9: the older one is there", y.get(177, 0), 7);
    }

    private static void promise10Sync() {
        RedoHeap x = new RedoHeap();
        Check.throwsState("10: sync, off", () -> x.sync());
        x.open();
        int syncs = x.count(3);
        Check.due("10: nothing waits", x.sync(), 0);
        Check.due("10: it is a sync", x.count(3), syncs + 1);
        x.begin();
        x.take(1);
        x.commit(false);
        x.begin();
        Check.due("10: sync", x.sync(), 6);
        Check.due("10: the transaction stays", x.count(1), 1);
        Check.due("10: nothing waits", x.count(6), 0);
        Check.due("10: on the disk", x.word(16), 4098);
        Check.due("10: sync again", x.sync(), 0);
        Check.due("10: syncs", x.count(3), syncs + 3);
    }

    private static void promise12Checkpoint() {
        RedoHeap x = new RedoHeap();
        Check.throwsState("12: checkpoint, off", () -> x.checkpoint());
        x.open();
        Check.due("12: nothing in the log", x.checkpoint(), 0);
        Check.due("12: nothing is done", x.count(2) + x.count(3), 4);
        x.begin();
        Check.throwsState("12: a transaction is open", () -> x.checkpoint());
        x.take(2);
        x.commit(false);
        x.begin();
        x.set(177, 0, 6);
        x.setRoot(177);
        x.commit(false);
        int writes = x.count(2);
        int syncs = x.count(3);
        Check.due("12: checkpoint", x.checkpoint(), 2);
        Check.due("12: writes", x.count(2) - writes, 4 + 1 + 12 + 1);
        Check.due("12: syncs", x.count(3) - syncs, 2);
        Check.due("12: nothing waits", x.count(6), 0);
        Check.due("12: generation", x.word(0), 2);
        Check.due("12: root", x.word(1), 177);
        Check.due("12: number", x.word(2), 2);
        Check.due("12: head", x.word(176), 5);
        Check.due("12: body", x.word(177), 6);
        for (int i = 16; i < 176; i++) {
            Check.due("12: log word " + i, x.word(i), 0);
        }
        Check.due("12: used", x.told(3), 0);
        Check.due("12: commits", x.told(4), 0);
        Check.due("12: told generation", x.told(5), 2);
        Check.due("12: told number", x.told(6), 2);
    }

    private static void promise12CheckpointOfFullLog() {
        RedoHeap x = Heaps.withBlock();
        for (int i = 0; i < 40; i++) {
            Heaps.commit(x, 1, i + 1, false);
        }
        Check.due("12: a full log waits", x.count(6), 160);
        int writes = x.count(2);
        Check.due("12: as many commits as there can be", x.checkpoint(), 40);
        Check.due("12: writes", x.count(2) - writes, 40 + 1 + 160 + 1);
        Check.due("12: the last one's value", x.word(177), 40);
        Check.due("12: number", x.word(2), 41);
        Check.due("12: the log's last word", x.word(175), 0);
        Heaps.commit(x, 79, -1, false);
        writes = x.count(2);
        Check.due("12: as many words as there can be", x.checkpoint(), 1);
        Check.due("12: writes", x.count(2) - writes, 79 + 1 + 160 + 1);
        Check.due("12: the last word in its place", x.word(255), -1);
        Check.due("12: the one behind it", x.word(256), 0);
    }

    private static void promise12CheckpointLosesPower() {
        for (int n = 1; n <= 15; n++) {
            for (int k = 0; k <= 12; k++) {
                RedoHeap x = Heaps.withTwoCommits();
                x.power(n, k);
                Check.due("12: the power goes", x.checkpoint(), -2);
                int stay = n <= 4 ? Math.min(n, k) : 4 + Math.min(n - 4, k);
                Check.due("12: first place", x.word(177), stay == 0 ? 0 : stay == 1 ? 8 : 9);
                Check.due("12: number", x.word(2), stay >= 4 ? 3 : 1);
                Check.due("12: the log's first word", x.word(16), stay >= 5 ? 0 : 2 * 4096 + 1);
                Check.due("12: the log's last word", x.word(25), stay >= 14 ? 0 : -4);
                Check.due("12: generation", x.word(0), stay >= 15 ? 3 : 2);
                Check.due("12: found", x.open(), stay >= 5 ? 0 : 2);
                Check.due("12: nothing is lost", x.get(177, 0) + x.get(177, 1), 18);
                Check.due("12: number", x.told(6), 3);
                // With the log clear, but GENERATION not raised, there is nothing to be done.
                Check.due("12: generation", x.told(5), stay == 14 ? 2 : 3);
            }
        }
        RedoHeap y = Heaps.withTwoCommits();
        y.power(16, 0);
        Check.due("12: one write more than there are", y.checkpoint(), 2);
    }

    private static void promise17Block() {
        RedoHeap x = new RedoHeap();
        Check.throwsState("17: block, off", () -> x.block(0, 3));
        x.open();
        Check.throwsIndex("17: what 3", () -> x.block(0, 3));
        Check.throwsIndex("17: what -1", () -> x.block(0, -1));
        Check.throwsIndex("17: what 3, no block", () -> x.block(9, 3));
        Check.due("17: address", x.block(0, 0), 177);
        Check.due("17: size", x.block(0, 1), 847);
        Check.due("17: used", x.block(0, 2), 0);
        for (int what = 0; what <= 2; what++) {
            Check.due("17: none behind", x.block(1, what), -1);
            Check.due("17: none below", x.block(-1, what), -1);
            Check.due("17: none at least", x.block(Integer.MIN_VALUE, what), -1);
            Check.due("17: none at most", x.block(Integer.MAX_VALUE, what), -1);
        }
        x.begin();
        x.take(5);
        Check.due("17: used within", x.block(0, 2), 1);
        Check.due("17: next within", x.block(1, 0), 183);
        Check.due("17: its size", x.block(1, 1), 841);
        x.abort();
        Check.due("17: as it is", x.block(0, 2), 0);
    }

    private static void promise18Told() {
        RedoHeap x = new RedoHeap();
        Check.throwsState("18: told, off", () -> x.told(8));
        x.open();
        Check.throwsIndex("18: what 8", () -> x.told(8));
        Check.throwsIndex("18: what -1", () -> x.told(-1));
        toldAre(x, "at first", 847, 847, 1, 0, 0, 1, 0, 0);
        x.begin();
        x.take(10);
        x.take(20);
        x.take(5);
        x.give(188);
        toldAre(x, "within", 829, 809, 4, 0, 0, 1, 0, 4);
        x.commit(false);
        toldAre(x, "from the log", 829, 809, 4, 10, 1, 1, 1, 0);
        x.begin();
        x.take(809);
        x.take(20);
        toldAre(x, "full", 0, 0, 4, 10, 1, 1, 1, 2);
        x.abort();
        toldAre(x, "after an abort", 829, 809, 4, 10, 1, 1, 1, 0);
        x.checkpoint();
        toldAre(x, "after a checkpoint", 829, 809, 4, 0, 0, 2, 1, 0);
    }

    private static void toldAre(RedoHeap x, String when, int... want) {
        for (int what = 0; what < want.length; what++) {
            Check.due("18: told(" + what + ") " + when, x.told(what), want[what]);
        }
    }
}
