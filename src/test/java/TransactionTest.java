/** Promises 2 to 8 and 11: what goes on within a transaction. */
public final class TransactionTest {
    public static void main(String[] args) {
        promise2Begin();
        promise3Take();
        promise3TakeRefused();
        promise3TakeFull();
        promise4Give();
        promise4GiveMerges();
        promise4GiveRefused();
        promise5Set();
        promise6Get();
        promise7SetRoot();
        promise8Root();
        promise11Abort();
        changesToWhatIsThere();
        Check.done("TransactionTest");
    }

    /** A transaction in which so many words (2 at least) have changes; a block of 200 is at 177. */
    private static RedoHeap withChanges(int n) {
        RedoHeap x = Heaps.begun();
        x.take(200);
        for (int i = 0; i < n - 2; i++) {
            x.set(177, i, 1000 + i);
        }
        Check.due("changes made", x.told(7), n);
        return x;
    }

    private static void promise2Begin() {
        RedoHeap x = new RedoHeap();
        Check.throwsState("2: begin, off", () -> x.begin());
        x.open();
        Check.due("2: count(1)", x.count(1), 0);
        Check.due("2: begin", x.begin(), 1);
        Check.due("2: count(1)", x.count(1), 1);
        Check.throwsState("2: begin, open", () -> x.begin());
        x.abort();
        Check.due("2: begin after abort", x.begin(), 1);
        x.take(1);
        x.commit(false);
        Check.due("2: begin after commit", x.begin(), 2);
        x.commit(false);
        Check.due("2: begin after an empty commit", x.begin(), 2);
    }

    private static void promise3Take() {
        RedoHeap x = new RedoHeap();
        Check.throwsState("3: take, off", () -> x.take(0));
        x.open();
        Check.throwsState("3: take, no transaction", () -> x.take(0));
        x.begin();
        Check.throwsArgument("3: take(0)", () -> x.take(0));
        Check.throwsArgument("3: take(848)", () -> x.take(848));
        Check.throwsArgument("3: take(least)", () -> x.take(Integer.MIN_VALUE));
        Check.throwsArgument("3: take(most)", () -> x.take(Integer.MAX_VALUE));
        Check.due("3: take(4)", x.take(4), 177);
        Check.due("3: take(1)", x.take(1), 182);
        Check.due("3: take(5)", x.take(5), 184);
        Check.due("3: take(6)", x.take(6), 190);
        Check.due("3: blocks", Probe.blocks(x), "[177 4 used][182 1 used][184 5 used][190 6 used][197 827 free]");
        x.give(177);
        x.give(184);
        Check.due("3: take(5) is not the first free one", x.take(5), 184);
        Check.due("3: take(2) splits 4", x.take(2), 177);
        Check.due("3: block 1", x.block(1, 0), 180);
        Check.due("3: block 1 has 1", x.block(1, 1), 1);
        Check.due("3: take(1) takes that", x.take(1), 180);
        x.give(184);
        Check.due("3: take(4) of 5 takes all", x.take(4), 184);
        Check.due("3: its size", x.block(3, 1), 5);
        Check.due("3: too great", x.take(828), -1);
        Check.due("3: the rest", x.take(827), 197);
        Check.due("3: nothing left", x.take(1), -1);
    }

    private static void promise3TakeFull() {
        RedoHeap x = Heaps.begun();
        Check.due("3: take(847)", x.take(847), 177);
        Check.due("3: one block", x.told(2), 1);
        Check.due("3: one change", x.told(7), 1);
        x.give(177);
        Check.due("3: take(846)", x.take(846), 177);
        Check.due("3: it has all 847", x.block(0, 1), 847);
        x.give(177);
        Check.due("3: take(845)", x.take(845), 177);
        Check.due("3: 845", x.block(0, 1), 845);
        Check.due("3: and 1", x.block(1, 1), 1);
    }

    private static void promise3TakeRefused() {
        RedoHeap x = withChanges(95);
        // The head at 377 is changed already, that of the rest is new: 96.
        Check.due("3: the 96th", x.take(5), 378);
        Check.due("3: changes", x.told(7), 96);
        Check.due("3: one too many", x.take(5), -1);
        Check.due("3: a refusal changes nothing", x.told(7), 96);
        Check.due("3: what fits whole needs no new head", x.take(640), 384);
    }

    private static void promise4Give() {
        RedoHeap x = new RedoHeap();
        Check.throwsState("4: give, off", () -> x.give(177));
        x.open();
        Check.throwsState("4: give, no transaction", () -> x.give(177));
        x.begin();
        Check.throwsArgument("4: give what is not used", () -> x.give(177));
        x.take(3);
        Check.throwsArgument("4: give a head", () -> x.give(176));
        Check.throwsArgument("4: give a middle", () -> x.give(178));
        Check.throwsArgument("4: give the free one", () -> x.give(181));
        Check.throwsArgument("4: give 0", () -> x.give(0));
        Check.throwsArgument("4: give below", () -> x.give(-1));
        Check.throwsArgument("4: give least", () -> x.give(Integer.MIN_VALUE));
        Check.throwsArgument("4: give most", () -> x.give(Integer.MAX_VALUE));
        Check.throwsArgument("4: give 1024", () -> x.give(1024));
        Check.due("4: give", x.give(177), 847);
        Check.throwsArgument("4: give twice", () -> x.give(177));
    }

    private static void promise4GiveMerges() {
        RedoHeap x = Heaps.begun();
        x.take(10);
        x.take(20);
        x.take(30);
        x.take(40);
        x.commit(true);
        x.begin();
        Check.due("4: alone", x.give(188), 20);
        Check.due("4: its change", x.told(7), 1);
        Check.due("4: with the one before", x.give(209), 51);
        Check.due("4: no change more", x.told(7), 1);
        Check.due("4: with the next one", x.give(177), 62);
        Check.due("4: a change more", x.told(7), 2);
        Check.due("4: blocks", x.told(2), 3);
        Check.due("4: with both", x.give(240), 847);
        Check.due("4: no change more", x.told(7), 2);
        Check.due("4: blocks", x.told(2), 1);
        x.commit(true);
        x.checkpoint();
        Check.due("4: the head of all", x.word(176), 1694);
        Check.due("4: a head within stays", x.word(239), 81);
        Check.due("4: a head within that was merged", x.word(187), 102);
    }

    private static void promise4GiveRefused() {
        RedoHeap x = Heaps.row(100, 5);
        for (int i = 0; i < 96; i++) {
            x.set(177, i, 3);
        }
        Check.due("4: one too many", x.give(278), -1);
        Check.due("4: it is used still", x.block(1, 2), 1);
        x.abort();
        x.begin();
        x.give(278);
        x.take(5);
        for (int i = 0; i < 95; i++) {
            x.set(177, i, 3);
        }
        Check.due("4: 96 changes", x.told(7), 96);
        Check.due("4: a head with a change may change", x.give(278), 746);
    }

    private static void promise5Set() {
        RedoHeap x = new RedoHeap();
        Check.throwsState("5: set, off", () -> x.set(177, 0, 1));
        x.open();
        Check.throwsState("5: set, no transaction", () -> x.set(177, 0, 1));
        x.begin();
        Check.throwsArgument("5: set, not used", () -> x.set(177, 0, 1));
        x.take(3);
        Check.throwsArgument("5: set below", () -> x.set(177, -1, 1));
        Check.throwsArgument("5: set behind", () -> x.set(177, 3, 1));
        Check.throwsArgument("5: set far", () -> x.set(177, Integer.MAX_VALUE, 1));
        Check.throwsArgument("5: set least", () -> x.set(177, Integer.MIN_VALUE, 1));
        Check.throwsArgument("5: set in a middle", () -> x.set(178, 0, 1));
        Check.due("5: set first", x.set(177, 0, Long.MIN_VALUE), true);
        Check.due("5: set last", x.set(177, 2, Long.MAX_VALUE), true);
        Check.due("5: first", x.get(177, 0), Long.MIN_VALUE);
        Check.due("5: last", x.get(177, 2), Long.MAX_VALUE);
        Check.due("5: not before its commit", x.word(177), 0);
        RedoHeap y = withChanges(96);
        Check.due("5: the 97th", y.set(177, 150, 1), false);
        Check.due("5: it is as it was", y.get(177, 150), 0);
        Check.due("5: one that has a change", y.set(177, 0, 1), true);
        Check.due("5: to what it is already", y.set(177, 150, 0), true);
        Check.due("5: changes", y.told(7), 96);
    }

    private static void promise6Get() {
        RedoHeap x = new RedoHeap();
        Check.throwsState("6: get, off", () -> x.get(177, 0));
        x.open();
        Check.throwsArgument("6: get, not used", () -> x.get(177, 0));
        x.begin();
        x.take(3);
        x.set(177, 1, 8);
        Check.due("6: get within", x.get(177, 1), 8);
        Check.throwsArgument("6: get behind", () -> x.get(177, 3));
        Check.throwsArgument("6: get below", () -> x.get(177, -1));
        Check.throwsArgument("6: get least", () -> x.get(Integer.MIN_VALUE, 0));
        x.commit(false);
        Check.due("6: get from the log", x.get(177, 1), 8);
        Check.due("6: not in its place", x.word(178), 0);
        x.begin();
        x.set(177, 1, 9);
        Check.due("6: get as the transaction has it", x.get(177, 1), 9);
        x.abort();
        Check.due("6: get as it is", x.get(177, 1), 8);
        x.checkpoint();
        Check.due("6: get from its place", x.get(177, 1), 8);
        Check.due("6: in its place", x.word(178), 8);
        x.begin();
        x.give(177);
        Check.throwsArgument("6: given back", () -> x.get(177, 1));
        x.take(3);
        Check.due("6: what was in a body stays", x.get(177, 1), 8);
    }

    private static void promise7SetRoot() {
        RedoHeap x = new RedoHeap();
        Check.throwsState("7: setRoot, off", () -> x.setRoot(0));
        x.open();
        Check.throwsState("7: setRoot, no transaction", () -> x.setRoot(0));
        x.begin();
        Check.throwsArgument("7: setRoot, not used", () -> x.setRoot(177));
        x.take(3);
        Check.throwsArgument("7: setRoot, a middle", () -> x.setRoot(178));
        Check.throwsArgument("7: setRoot below", () -> x.setRoot(-1));
        Check.due("7: setRoot(0), no change", x.setRoot(0), true);
        Check.due("7: changes", x.told(7), 2);
        Check.due("7: setRoot(177)", x.setRoot(177), true);
        Check.due("7: changes", x.told(7), 3);
        Check.due("7: setRoot(0)", x.setRoot(0), true);
        Check.due("7: it is a change still", x.told(7), 3);
        RedoHeap y = withChanges(96);
        Check.due("7: one too many", y.setRoot(177), false);
        Check.due("7: it is as it was", y.root(), 0);
        Check.due("7: to what it is", y.setRoot(0), true);
        Check.due("7: changes", y.told(7), 96);
    }

    private static void promise8Root() {
        RedoHeap x = new RedoHeap();
        Check.throwsState("8: root, off", () -> x.root());
        x.open();
        Check.due("8: at first", x.root(), 0);
        x.begin();
        x.take(3);
        x.setRoot(177);
        Check.due("8: within", x.root(), 177);
        x.abort();
        Check.due("8: after an abort", x.root(), 0);
        x.begin();
        x.take(3);
        x.setRoot(177);
        x.commit(true);
        Check.due("8: from the log", x.root(), 177);
        Check.due("8: not in its place", x.word(1), 0);
        x.checkpoint();
        Check.due("8: in its place", x.word(1), 177);
        x.begin();
        x.give(177);
        Check.due("8: it stays when the block goes", x.root(), 177);
    }

    private static void promise11Abort() {
        RedoHeap x = new RedoHeap();
        Check.throwsState("11: abort, off", () -> x.abort());
        x.open();
        Check.throwsState("11: abort, none open", () -> x.abort());
        x.begin();
        Check.due("11: abort without changes", x.abort(), 0);
        x.begin();
        x.take(3);
        x.set(177, 0, 4);
        x.setRoot(177);
        Check.due("11: abort", x.abort(), 4);
        Check.due("11: blocks as before", Probe.blocks(x), "[177 847 free]");
        Check.due("11: root as before", x.root(), 0);
        Check.throwsState("11: abort twice", () -> x.abort());
        x.begin();
        Check.due("11: a new one has no changes", x.told(7), 0);
        Check.refused("11: a transaction that is no more", () -> Heaps.withTwoCommits(), y -> aborted(y), "96");
    }

    private static int aborted(RedoHeap x) {
        Heaps.change(x, 96, 5);
        return x.abort();
    }

    private static void changesToWhatIsThere() {
        RedoHeap x = Heaps.begun();
        x.take(3);
        Check.due("set to what is there", x.set(177, 0, 0), true);
        Check.due("is no change", x.told(7), 2);
        x.set(177, 0, 5);
        x.set(177, 0, 0);
        Check.due("set back is a change", x.told(7), 3);
        x.give(177);
        Check.due("given back, changes stay", x.told(7), 3);
        Check.due("commit", x.commit(true), 1);
        Check.due("front", x.word(16), 4096 + 3);
        Check.due("first word", x.word(17), 176);
        Check.due("first value", x.word(18), 1694);
        Check.due("second word", x.word(19), 177);
        Check.due("second value", x.word(20), 0);
        Check.due("third word", x.word(21), 180);
        Check.due("third value", x.word(22), 2 * 843);
        Check.due("back", x.word(23), -2);
        x.begin();
        x.take(3);
        Check.due("a head that is there already is no change", x.told(7), 1);
    }
}
