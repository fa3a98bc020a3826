/** Promises 1, 13 to 16 and 19: the disk and its power. */
public final class PowerTest {
    public static void main(String[] args) {
        promise1New();
        promise13Power();
        promise13PowerKeeps();
        promise13PowerAtItsLimits();
        promise14Cut();
        promise14CutOfFullLog();
        promise15Open();
        promise15Format();
        promise15OpenLosesPower();
        promise15TornCommit();
        promise15FullLog();
        promise16Word();
        promise19Count();
        Check.done("PowerTest");
    }

    private static void promise1New() {
        RedoHeap x = new RedoHeap();
        for (int i = 0; i < 1024; i += 3) {
            Check.due("1: word " + i, x.word(i), 0);
        }
        for (int what = 0; what <= 6; what++) {
            Check.due("1: count " + what, x.count(what), 0);
        }
    }

    private static void promise13Power() {
        RedoHeap x = new RedoHeap();
        Check.throwsArgument("13: n below", () -> x.power(-1, 0));
        Check.throwsArgument("13: n above", () -> x.power(5001, 0));
        Check.throwsArgument("13: k below", () -> x.power(0, -1));
        Check.throwsArgument("13: k above", () -> x.power(0, 5001));
        Check.throwsArgument("13: n least", () -> x.power(Integer.MIN_VALUE, 0));
        Check.throwsArgument("13: k most", () -> x.power(1, Integer.MAX_VALUE));
        Check.due("13: nothing told yet", x.power(5000, 5000), 0);
        Check.due("13: told before", x.power(10, 0), 5000);
        Check.throwsArgument("13: refused", () -> x.power(5001, 0));
        x.open();
        Check.due("13: three writes less", x.power(2, 0), 7);
        Check.due("13: told anew", x.power(0, 3), 2);
        Check.due("13: told not to", x.power(0, 0), 0);
        x.begin();
        x.take(1);
        Check.due("13: it does not go", x.commit(true), 1);
        Check.due("13: nothing is told still", x.power(0, 0), 0);
        x.power(100, 1);
        x.cut(0);
        Check.due("13: a cut ends it", x.power(0, 0), 0);
        x.open();
        x.power(1, 0);
        x.begin();
        x.take(1);
        Check.due("13: it goes", x.commit(false), -2);
        Check.due("13: it has gone", x.power(0, 0), 0);
    }

    private static void promise13PowerKeeps() {
        RedoHeap x = Heaps.withBlock();
        Heaps.change(x, 1, 5);
        x.commit(false);
        Heaps.change(x, 1, 6);
        x.power(2, 5);
        Check.due("13: it goes", x.commit(true), -2);
        Check.due("13: those that waited before count", x.word(19), -3);
        Check.due("13: and one more", x.word(20), 2 * 4096 + 1);
        Check.due("13: the second not", x.word(21), 0);
        Check.due("13: lost", x.count(5), 1);
        Check.due("13: no more wait", x.count(6), 0);
        Check.throwsState("13: off", () -> x.told(0));
        Check.due("13: found", x.open(), 1);
        Check.due("13: value", x.get(177, 0), 5);
    }

    private static void promise13PowerAtItsLimits() {
        RedoHeap x = Heaps.withBlock();
        x.power(5000, 5000);
        Check.due("13: far off", Heaps.commit(x, 79, 1, true), 2);
        Check.due("13: 160 writes nearer", x.power(161, 5000), 4840);
        Check.due("13: a checkpoint of 241", x.checkpoint(), -2);
        Check.due("13: all that waited are kept", x.count(5), 0);
        Check.due("13: 80 before the sync, 81 words of the log", x.word(16 + 80), 0);
        Check.due("13: the next one is not written", x.word(16 + 81) != 0, true);
        RedoHeap y = Heaps.withBlock();
        y.power(1, 0);
        y.power(0, 5000);
        Check.due("13: 0 writes: it does not go", Heaps.commit(y, 1, 1, true), 2);
        y.power(1, 0);
        Check.due("13: a commit without changes writes nothing", Heaps.commit(y, 0, 1, true), 2);
        y.sync();
        Check.due("13: nor does a sync", y.power(1, 0), 1);
        Check.due("13: a checkpoint does: it goes at the first one", y.checkpoint(), -2);
    }

    private static void promise14CutOfFullLog() {
        for (int k : new int[] {0, 1, 159, 160, 161, 5001}) {
            RedoHeap x = Heaps.withBlock();
            Heaps.commit(x, 79, 7, false);
            Check.due("14: a full log waited", x.cut(k), 160);
            Check.due("14: lost", x.count(5), Math.max(0, 160 - k));
            Check.due("14: the front, kept " + k, x.word(16), k >= 1 ? 2 * 4096 + 79 : 0);
            Check.due("14: the back, kept " + k, x.word(175), k >= 160 ? -3 : 0);
            Check.due("14: found", x.open(), k >= 160 ? 1 : 0);
        }
    }

    private static void promise14Cut() {
        RedoHeap x = new RedoHeap();
        Check.throwsState("14: cut, off", () -> x.cut(-1));
        x.open();
        Check.throwsArgument("14: k below", () -> x.cut(-1));
        Check.due("14: on still", x.count(0), 1);
        x.begin();
        x.take(3);
        x.commit(false);
        x.begin();
        x.take(4);
        Check.due("14: cut", x.cut(2), 6);
        Check.due("14: off", x.count(0), 0);
        Check.due("14: no transaction", x.count(1), 0);
        Check.due("14: times", x.count(4), 1);
        Check.due("14: lost", x.count(5), 4);
        Check.due("14: waiting", x.count(6), 0);
        Check.due("14: kept", x.word(17), 176);
        Check.due("14: not kept", x.word(18), 0);
        Check.throwsState("14: cut twice", () -> x.cut(0));
        x.open();
        x.begin();
        x.take(3);
        x.commit(false);
        Check.due("14: all are kept", x.cut(Integer.MAX_VALUE), 6);
        Check.due("14: lost", x.count(5), 4);
        Check.due("14: found", x.open(), 1);
        Check.due("14: cut with nothing waiting", x.cut(0), 0);
        Check.due("14: times", x.count(4), 3);
    }

    private static void promise15Open() {
        RedoHeap x = new RedoHeap();
        Check.due("15: formatted", x.open(), 0);
        Check.throwsState("15: open, on", () -> x.open());
        x.cut(0);
        int writes = x.count(2);
        int syncs = x.count(3);
        Check.due("15: nothing in the log", x.open(), 0);
        Check.due("15: nothing is done", x.count(2) - writes + x.count(3) - syncs, 0);
        Check.due("15: generation", x.told(5), 1);
        x.begin();
        x.take(3);
        x.commit(true);
        x.begin();
        x.set(177, 2, -9);
        x.setRoot(177);
        x.commit(true);
        x.cut(0);
        writes = x.count(2);
        Check.due("15: two are found", x.open(), 2);
        Check.due("15: writes", x.count(2) - writes, 4 + 1 + 12 + 1);
        Check.due("15: syncs", x.count(3) - syncs, 2 + 2);
        Check.due("15: generation", x.word(0), 2);
        Check.due("15: root", x.root(), 177);
        Check.due("15: number", x.word(2), 2);
        Check.due("15: value", x.word(179), -9);
        Check.due("15: log", x.word(16), 0);
        Check.due("15: used", x.told(3), 0);
        Check.due("15: commits", x.told(4), 0);
        Check.due("15: the next number", x.begin(), 3);
    }

    private static void promise15Format() {
        for (int n = 1; n <= 3; n++) {
            for (int k = 0; k <= 4; k++) {
                RedoHeap x = new RedoHeap();
                x.power(n, k);
                int stay = Math.min(n, k);
                Check.due("15: the power goes", x.open(), -2);
                Check.due("15: head", x.word(176), stay >= 1 ? 1694 : 0);
                Check.due("15: generation", x.word(0), stay >= 3 ? 1 : 0);
                Check.due("15: no sync", x.count(3), 0);
                Check.due("15: open", x.open(), 0);
                Check.due("15: formatted anew, or not", x.count(2), stay >= 3 ? 3 : n + 3);
                Check.due("15: heap", x.told(0), 847);
            }
        }
        RedoHeap y = new RedoHeap();
        y.power(4, 0);
        Check.due("15: one more than there are", y.open(), 0);
        y.begin();
        y.take(1);
        Check.due("15: it goes with the next one", y.commit(true), -2);
    }

    private static void promise15OpenLosesPower() {
        for (int n = 1; n <= 15; n++) {
            for (int k = 0; k <= 12; k++) {
                RedoHeap x = Heaps.withTwoCommits();
                x.cut(0);
                x.power(n, k);
                Check.due("15: the power goes", x.open(), -2);
                Check.due("15: off", x.count(0), 0);
                Check.due("15: times", x.count(4), 2);
                int stay = n <= 4 ? Math.min(n, k) : 4 + Math.min(n - 4, k);
                Check.due("15: found", x.open(), stay >= 5 ? 0 : 2);
                Check.due("15: nothing is lost", x.get(177, 0) + x.get(177, 1), 18);
                Check.due("15: number", x.told(6), 3);
                Check.due("15: generation", x.told(5), stay == 14 ? 2 : 3);
            }
        }
    }

    private static void promise15TornCommit() {
        RedoHeap x = Heaps.withBlock();
        Heaps.change(x, 1, 8);
        x.commit(true);
        Heaps.change(x, 3, -9);
        x.commit(false);
        // FRONT, the first word's number and value, the second one's number: 8 words in all.
        x.cut(4);
        int writes = x.count(2);
        Check.due("15: the whole one is found", x.open(), 1);
        Check.due("15: writes", x.count(2) - writes, 1 + 1 + 8 + 1);
        Check.due("15: number", x.told(6), 2);
        Check.due("15: value", x.get(177, 0), 8);
        Heaps.change(x, 3, -9);
        x.commit(false);
        x.cut(7);
        writes = x.count(2);
        Check.due("15: none is found", x.open(), 0);
        Check.due("15: writes", x.count(2) - writes, 1 + 7 + 1);
        Check.due("15: WORD 2 is as it is", x.word(2), 2);
        Check.due("15: generation", x.word(0), 4);
        Check.due("15: value", x.get(177, 0), 8);
    }

    private static void promise15FullLog() {
        RedoHeap x = Heaps.withBlock();
        Heaps.change(x, 77, 4);
        x.commit(true);
        Heaps.change(x, 1, 5);
        x.commit(true);
        x.cut(0);
        Check.due("15: both of a full log are found", x.open(), 2);
        Check.due("15: the last one's value", x.get(177, 0), 5);
        Check.due("15: the first one's last value", x.get(177, 76), 4);
        Check.due("15: the log's end is clear", x.word(175), 0);
        Heaps.change(x, 79, 6);
        x.commit(false);
        x.cut(160);
        Check.due("15: one that fills the log is found", x.open(), 1);
        Check.due("15: its last value", x.get(177, 78), 6);
        Heaps.change(x, 79, 7);
        x.commit(false);
        x.cut(159);
        Check.due("15: not without its back", x.open(), 0);
        Check.due("15: its last value", x.get(177, 78), 6);
    }

    private static void promise16Word() {
        RedoHeap x = new RedoHeap();
        Check.throwsIndex("16: below", () -> x.word(-1));
        Check.throwsIndex("16: above", () -> x.word(1024));
        Check.throwsIndex("16: least", () -> x.word(Integer.MIN_VALUE));
        Check.throwsIndex("16: most", () -> x.word(Integer.MAX_VALUE));
        Check.due("16: the last one", x.word(1023), 0);
        x.open();
        x.begin();
        x.take(847);
        x.set(177, 846, 3);
        x.commit(false);
        Check.due("16: what waits is not there", x.word(16), 0);
        x.sync();
        Check.due("16: now it is", x.word(16), 4098);
        x.checkpoint();
        Check.due("16: the last one", x.word(1023), 3);
        x.cut(0);
        Check.due("16: with the power off", x.word(1023), 3);
    }

    private static void promise19Count() {
        RedoHeap x = new RedoHeap();
        Check.throwsIndex("19: below", () -> x.count(-1));
        Check.throwsIndex("19: above", () -> x.count(7));
        countsAre(x, "at first", 0, 0, 0, 0, 0, 0, 0);
        x.open();
        countsAre(x, "opened", 1, 0, 3, 1, 0, 0, 0);
        x.begin();
        x.take(1);
        countsAre(x, "begun", 1, 1, 3, 1, 0, 0, 0);
        x.commit(false);
        countsAre(x, "committed", 1, 0, 9, 1, 0, 0, 6);
        x.sync();
        countsAre(x, "synced", 1, 0, 9, 2, 0, 0, 0);
        x.begin();
        x.set(177, 0, 1);
        x.power(3, 2);
        x.commit(true);
        countsAre(x, "power gone", 0, 0, 12, 2, 1, 1, 0);
        x.power(1, 0);
        x.open();
        countsAre(x, "gone again", 0, 0, 13, 2, 2, 2, 0);
        x.open();
        countsAre(x, "opened", 1, 0, 13 + 2 + 1 + 8 + 1, 4, 2, 2, 0);
    }

    private static void countsAre(RedoHeap x, String when, int... want) {
        for (int what = 0; what < want.length; what++) {
            Check.due("19: count(" + what + ") " + when, x.count(what), want[what]);
        }
    }
}
