/** The boundary cases that sentences of "Terms" name: commits, checkpoints, the power, opening. */
public final class TermsOfLogTest {
    public static void main(String[] args) {
        commitOfNothing();
        commitThatJustFits();
        commitAfterCheckpoint();
        commitThatIsRefused();
        commitInTheLog();
        commitInOrder();
        commitWithOrWithoutSync();
        checkpointInOrder();
        checkpointOfNothing();
        readersBetween();
        powerCountsFromThen();
        powerGoesAtOnce();
        powerKeepsTheFirst();
        powerEndsWhatIsDone();
        powerTakesTheTransaction();
        openingAsTold();
        openingFormats();
        openingFindsWholeOnes();
        openingFindsNoTornOne();
        openingOfACleanLog();
        openingWithoutCommit();
        openingClearsToTheLast();
        openingNumber();
        Check.done("TermsOfLogTest");
    }

    private static void commitOfNothing() {
        Check.sentence("COMMIT, with d WORDS that have CHANGES: without any: nothing but its end.");
        RedoHeap x = Heaps.withTwoCommits();
        int writes = x.count(2);
        int syncs = x.count(3);
        for (int i = 0; i < 2; i++) {
            x.begin();
            x.set(177, 0, 9);
            Check.due("commit", x.commit(i == 0), 3);
            Check.due("its end", x.count(1), 0);
        }
        Check.due("no write", x.count(2), writes);
        Check.due("no sync", x.count(3), syncs);
        Check.due("the log is as it was", x.told(3), 10);
        Check.due("its commits too", x.told(4), 2);
        RedoHeap y = Heaps.withBlock();
        Heaps.commit(y, 79, 1, false);
        Check.due("in a full log", Heaps.commit(y, 0, 1, true), 2);
        Check.due("no checkpoint", y.told(3), 160);
        Check.due("what waits waits still", y.count(6), 160);
    }

    private static void commitThatJustFits() {
        Check.sentence("Needed are 2 + 2 d WORDS of THE LOG behind what is in it.");
        RedoHeap x = Heaps.withBlock();
        Check.due("1 word", Heaps.commit(x, 1, 1, true), 2);
        Check.due("needs 4", x.told(3), 4);
        Check.due("77 words", Heaps.commit(x, 77, 2, true), 3);
        Check.due("need 156, all that is left", x.told(3), 160);
        Check.due("no checkpoint", x.told(5), 2);
        Check.due("both are in the log", x.told(4), 2);
        RedoHeap y = Heaps.withBlock();
        Check.due("79 words", Heaps.commit(y, 79, 1, true), 2);
        Check.due("need 160, all that there is", y.told(3), 160);
    }

    private static void commitAfterCheckpoint() {
        Check.sentence("When they are not there, but something is in THE LOG, a CHECKPOINT is done first");
        RedoHeap x = Heaps.withBlock();
        Heaps.commit(x, 1, 1, true);
        int writes = x.count(2);
        int syncs = x.count(3);
        Check.due("78 words, with 4 used", Heaps.commit(x, 78, 2, false), 3);
        Check.due("the checkpoint's generation", x.told(5), 3);
        Check.due("this one is in the log", x.told(3), 158);
        Check.due("alone", x.told(4), 1);
        Check.due("writes", x.count(2) - writes, 1 + 1 + 4 + 1 + 158);
        Check.due("syncs", x.count(3) - syncs, 2);
        Check.due("the older one is in its place", x.word(177), 1);
        Check.due("this one is not", x.word(178), 0);
        Check.due("a smallest one, with 158 used", Heaps.commit(x, 1, 3, true), 4);
        Check.due("generation", x.word(0), 4);
        Check.due("its front has it too", x.word(16), 4 * 4096 + 1);
    }

    private static void commitThatIsRefused() {
        Check.sentence("when they are not there then, it is refused.");
        Check.refused("80 words, an empty log", () -> Heaps.changing(80), x -> x.commit(true), "-1");
        Check.refused("96 words, an empty log", () -> Heaps.changing(96), x -> x.commit(false), "-1");
        RedoHeap x = Heaps.withTwoCommits();
        x.begin();
        for (int i = 0; i < 80; i++) {
            x.set(177, i, 3);
        }
        Check.due("80 words, something in the log", x.commit(true), -1);
        Check.due("the checkpoint is done", x.told(4), 0);
        Check.due("nothing is used", x.told(3), 0);
        Check.due("generation", x.word(0), 3);
        Check.due("number", x.word(2), 3);
        Check.due("in its place", x.word(178), 9);
        Check.due("the transaction stays open", x.count(1), 1);
        Check.due("with its changes", x.told(7), 80);
        Check.due("and their values", x.get(177, 79), 3);
        int writes = x.count(2);
        Check.due("once more", x.commit(true), -1);
        Check.due("nothing is left to be done", x.count(2), writes);
        x.abort();
        Check.due("as it was", x.get(177, 0) + x.get(177, 79), 9);
        Check.due("79 words are not refused", Heaps.commit(x, 79, 4, true), 4);
    }

    private static void commitInTheLog() {
        Check.sentence("WRITES of THE LOG, behind what is in it: the FRONT: 4096 * GENERATION + d; "
            + "for each WORD with a CHANGE, by its number, that number and then its new value; "
            + "the BACK: -1 - the number of this COMMIT (one more than the last one's; 0 is that of none)");
        RedoHeap x = Heaps.row(200, 644);
        x.set(378, 643, Long.MAX_VALUE);
        x.set(378, 0, -1);
        x.set(177, 199, Long.MIN_VALUE);
        x.setRoot(378);
        x.set(177, 0, 7);
        Check.due("commit", x.commit(true), 2);
        Check.due("a second one behind it", Heaps.commit(x, 1, 8, true), 3);
        long[] log = {2 * 4096 + 5, 1, 378, 177, 7, 376, Long.MIN_VALUE, 378, -1, 1021, Long.MAX_VALUE, -3,
            2 * 4096 + 1, 177, 8, -4, 0};
        for (int i = 0; i < log.length; i++) {
            Check.due("word " + (16 + i), x.word(16 + i), log[i]);
        }
        RedoHeap y = Heaps.opened();
        Check.due("no commit yet", y.told(6), 0);
        y.begin();
        y.take(847);
        Check.due("the first one's number", y.commit(true), 1);
        Check.due("its back", y.word(19), -2);
    }

    private static void commitInOrder() {
        Check.sentence("for each WORD with a CHANGE, by its number");
        RedoHeap x = Heaps.withBlock();
        x.begin();
        for (int i = 78; i >= 0; i--) {
            x.set(177, i, -i);
            x.set(177, i, 1000 + i);
        }
        x.commit(true);
        for (int i = 0; i < 79; i++) {
            Check.due("number", x.word(17 + 2 * i), 177 + i);
            Check.due("value", x.word(18 + 2 * i), 1000 + i);
        }
    }

    private static void commitWithOrWithoutSync() {
        Check.sentence("a SYNC, if it is told so. The TRANSACTION is closed then.");
        RedoHeap x = Heaps.withBlock();
        int syncs = x.count(3);
        Heaps.commit(x, 1, 1, false);
        Check.due("closed", x.count(1), 0);
        Check.due("no sync", x.count(3), syncs);
        Check.due("it waits", x.count(6), 4);
        Heaps.commit(x, 1, 2, true);
        Check.due("closed", x.count(1), 0);
        Check.due("a sync", x.count(3), syncs + 1);
        Check.due("what waited before is on the disk too", x.word(16), 2 * 4096 + 1);
        Check.due("none waits", x.count(6), 0);
    }

    private static void checkpointInOrder() {
        Check.sentence("CHECKPOINT: for each COMMIT in THE LOG, in order, WRITES of its WORDS, in order, to their places; "
            + "then a WRITE of WORD 2 (the number of the last one); a SYNC; "
            + "then WRITES of 0 to all WORDS of THE LOG that are used, the first one first; "
            + "then a WRITE of WORD 0 (GENERATION + 1); a SYNC.");
        // The words in the order of their writes: 3 places, the number, 10 words of the log, the generation.
        int[] words = {177, 177, 178, 2, 16, 17, 18, 19, 20, 21, 22, 23, 24, 25, 0};
        long[] then = {8, 9, 9, 3, 0, 0, 0, 0, 0, 0, 0, 0, 0, 0, 3};
        for (int n = 1; n <= words.length; n++) {
            RedoHeap x = Heaps.withTwoCommits();
            RedoHeap y = Heaps.withTwoCommits();
            int syncs = x.count(3);
            x.power(n, 5000);
            Check.due("the power goes at write " + n, x.checkpoint(), -2);
            Check.due("write " + n, x.word(words[n - 1]), then[n - 1]);
            Check.due("the one behind it is not done", n < 15 && x.word(words[n]) == then[n], false);
            Check.due("syncs", x.count(3) - syncs, n > 4 ? 1 : 0);
            y.power(n, 0);
            y.checkpoint();
            Check.due("lost at write " + n, y.count(5), n > 4 ? n - 4 : n);
        }
        RedoHeap x = Heaps.withTwoCommits();
        int syncs = x.count(3);
        x.checkpoint();
        Check.due("two syncs", x.count(3) - syncs, 2);
        Check.due("none waits", x.count(6), 0);
        Check.due("nothing is in the log", x.told(3) + x.told(4), 0);
    }

    private static void checkpointOfNothing() {
        Check.sentence("(With nothing in THE LOG nothing is done.)");
        Check.refused("a formatted disk", () -> Heaps.opened(), x -> x.checkpoint(), "0");
        Check.refused("after a checkpoint", () -> Heaps.withBlock(), x -> x.checkpoint(), "0");
    }

    private static void readersBetween() {
        Check.sentence("What the heap is for readers between them is THE DISK's (with what waits), "
            + "and above that what is in THE LOG.");
        RedoHeap x = Heaps.withBlock();
        x.begin();
        x.take(5);
        x.set(378, 4, 6);
        x.setRoot(378);
        x.commit(false);
        Check.due("from the log", x.get(378, 4), 6);
        Check.due("root", x.root(), 378);
        Check.due("blocks", Probe.blocks(x), "[177 200 used][378 5 used][384 640 free]");
        Check.due("not in their places", x.word(377), 2 * 646);
        x.checkpoint();
        Check.due("from its place", x.get(378, 4), 6);
        Check.due("root", x.root(), 378);
        Check.due("blocks", Probe.blocks(x), "[177 200 used][378 5 used][384 640 free]");
    }

    private static void powerCountsFromThen() {
        Check.sentence("POWER: when it was told that after n WRITES it goes, WRITES are counted from then on");
        RedoHeap x = Heaps.withBlock();
        Heaps.commit(x, 1, 1, false);
        x.power(4, 0);
        x.begin();
        x.set(177, 0, 2);
        x.power(5, 0);
        Check.due("four of five", x.commit(true), 3);
        x.power(5, 0);
        Check.due("four of another five", Heaps.commit(x, 1, 3, true), 4);
        Check.due("the fifth", Heaps.commit(x, 1, 4, true), -2);
        Check.due("one lost", x.count(5), 1);
        RedoHeap y = Heaps.withBlock();
        y.power(4, 0);
        y.power(0, 0);
        Check.due("told that it does not", Heaps.commit(y, 1, 1, true), 2);
        y.power(3, 0);
        y.cut(0);
        y.open();
        Check.due("told before a cut", Heaps.commit(y, 1, 2, true), 3);
        y.power(4, 0);
        Check.due("it goes", Heaps.commit(y, 1, 3, true), -2);
        y.open();
        Check.due("once only", Heaps.commit(y, 2, 4, true), 4);
    }

    private static void powerGoesAtOnce() {
        Check.sentence("when the n-th one has come (it waits, too), the power goes at once");
        RedoHeap x = Heaps.withBlock();
        int writes = x.count(2);
        x.power(1, 1);
        Check.due("at the first", Heaps.commit(x, 1, 5, true), -2);
        Check.due("one write", x.count(2) - writes, 1);
        Check.due("which waited", x.word(16), 2 * 4096 + 1);
        RedoHeap y = Heaps.withBlock();
        y.power(4, 4);
        Check.due("at the last", Heaps.commit(y, 1, 5, false), -2);
        Check.due("off", y.count(0), 0);
        Check.due("which waited", y.word(19), -3);
        Check.due("so the commit is found", y.open(), 1);
        Check.due("and good", y.get(177, 0), 5);
        RedoHeap z = Heaps.withBlock();
        z.power(5, 0);
        Check.due("one less than it takes", Heaps.commit(z, 1, 5, true), 2);
        Check.due("on", z.count(0), 1);
    }

    private static void powerKeepsTheFirst() {
        Check.sentence("of those that wait the first k (as told; all, if there are not so many) are on THE DISK, "
            + "the others are lost");
        for (int k = 0; k <= 7; k++) {
            RedoHeap x = Heaps.withBlock();
            Heaps.commit(x, 1, 5, false);
            x.power(2, k);
            Check.due("six wait", Heaps.commit(x, 1, 6, false), -2);
            long[] log = {2 * 4096 + 1, 177, 5, -3, 2 * 4096 + 1, 177};
            for (int i = 0; i < log.length; i++) {
                Check.due("kept " + k + ", word " + (16 + i), x.word(16 + i), i < k ? log[i] : 0);
            }
            Check.due("lost", x.count(5), Math.max(0, 6 - k));
            Check.due("none waits", x.count(6), 0);
        }
        int[] edges = {0, 159, 160, 161, 5000};
        for (int k : edges) {
            RedoHeap x = Heaps.withBlock();
            x.power(160, k);
            Check.due("a full log", Heaps.commit(x, 79, 5, false), -2);
            Check.due("its back, kept " + k, x.word(175), k >= 160 ? -3 : 0);
            Check.due("lost", x.count(5), Math.max(0, 160 - k));
        }
    }

    private static void powerEndsWhatIsDone() {
        Check.sentence("what was being done ends there (so a SYNC that would come is not done).");
        RedoHeap x = Heaps.withBlock();
        int syncs = x.count(3);
        x.power(4, 2);
        Check.due("at a commit's last write", Heaps.commit(x, 1, 5, true), -2);
        Check.due("no sync", x.count(3), syncs);
        Check.due("two are lost", x.word(18), 0);
        RedoHeap y = Heaps.withTwoCommits();
        syncs = y.count(3);
        y.power(4, 0);
        Check.due("at a checkpoint's write of WORD 2", y.checkpoint(), -2);
        Check.due("no sync", y.count(3), syncs);
        Check.due("nothing is in its place", y.word(177) + y.word(178), 0);
        RedoHeap z = Heaps.withTwoCommits();
        syncs = z.count(3);
        z.power(15, 0);
        Check.due("at a checkpoint's last write", z.checkpoint(), -2);
        Check.due("one sync", z.count(3), syncs + 1);
        Check.due("the log is there", z.word(16), 2 * 4096 + 1);
        RedoHeap w = Heaps.withTwoCommits();
        int writes = w.count(2);
        w.power(15, 5000);
        Check.due("at the last write of a commit's checkpoint", Heaps.commit(w, 79, 1, true), -2);
        Check.due("the commit is not begun", w.count(2) - writes, 15);
        Check.due("nothing is in the log", w.word(16), 0);
    }

    private static void powerTakesTheTransaction() {
        Check.sentence("All but what asks THE DISK is off then, the TRANSACTION is lost.");
        RedoHeap x = Heaps.changing(3);
        x.cut(5);
        Check.due("off", x.count(0), 0);
        Check.due("no transaction", x.count(1), 0);
        Check.due("a word can be asked", x.word(0), 2);
        Check.due("power can be told", x.power(0, 0), 0);
        x.open();
        Check.due("none when it is back", x.count(1), 0);
        Check.due("nor its changes", x.told(7), 0);
        Check.due("nor their values", x.get(177, 0), 0);
        Check.due("a new one has the same number", x.begin(), 2);
        Check.due("and no changes", x.told(7), 0);
        RedoHeap y = Heaps.changing(3);
        y.power(1, 0);
        y.commit(true);
        Check.due("in a commit", y.count(1), 0);
        y.open();
        y.begin();
        Check.due("its changes are lost", y.told(7), 0);
        Check.due("their values too", y.get(177, 2), 0);
    }

    private static void openingAsTold() {
        Check.sentence("OPENING, when the power is off: it comes back (and goes as it was told in the meantime, if it was).");
        RedoHeap x = Heaps.withTwoCommits();
        x.cut(0);
        x.power(15, 0);
        Check.due("at opening's last write", x.open(), -2);
        Check.due("off", x.count(0), 0);
        x.power(16, 0);
        Check.due("one more than opening writes", x.open(), 2);
        Check.due("on", x.count(0), 1);
        Check.due("one is still to come", x.power(0, 0), 1);
        RedoHeap y = Heaps.withBlock();
        y.cut(0);
        y.power(1, 0);
        Check.due("no write, so it stays", y.open(), 0);
        Check.due("on", y.count(0), 1);
        Check.due("till the next write", Heaps.commit(y, 1, 1, true), -2);
        RedoHeap z = Heaps.withTwoCommits();
        z.power(1, 0);
        z.cut(0);
        Check.due("not as it was told before", z.open(), 2);
    }

    private static void openingFormats() {
        Check.sentence("If WORD 0 is 0: FORMAT.");
        for (int n = 1; n <= 3; n++) {
            for (int k = 0; k <= 3; k++) {
                RedoHeap x = new RedoHeap();
                x.power(n, k);
                Check.due("the power goes", x.open(), -2);
                boolean formatted = n == 3 && k == 3;
                Check.due("WORD 0", x.word(0), formatted ? 1 : 0);
                Check.due("open", x.open(), 0);
                Check.due("formatted anew, or not", x.count(2), formatted ? n : n + 3);
                Check.due("syncs", x.count(3), formatted ? 0 : 1);
                Check.due("blocks", Probe.blocks(x), "[177 847 free]");
                Check.due("generation", x.told(5), 1);
                Check.due("root", x.root(), 0);
                Check.due("number", x.begin(), 1);
            }
        }
    }

    private static void openingFindsWholeOnes() {
        Check.sentence("Else from WORD 16 on COMMITS are looked for: one is there, if its FRONT is "
            + "4096 * GENERATION + 1 .. 96 (d), 2 + 2 d WORDS have room in THE LOG from there on, "
            + "and its BACK is below 0; then behind it.");
        int[][] sizes = {{1}, {79}, {1, 77}, {77, 1}, {38, 39}, {1, 1, 75}};
        for (int[] ds : sizes) {
            RedoHeap x = Heaps.withBlock();
            for (int i = 0; i < ds.length; i++) {
                Heaps.commit(x, ds[i], 10 + i, true);
            }
            x.cut(0);
            Check.due("found", x.open(), ds.length);
            Check.due("the last one's value", x.get(177, 0), 9 + ds.length);
            Check.due("number", x.told(6), 1 + ds.length);
            Check.due("the log is clear", x.word(16) + x.word(175), 0);
        }
        RedoHeap y = Heaps.withBlock();
        for (int i = 0; i < 40; i++) {
            Heaps.commit(y, 1, i + 1, false);
        }
        Check.due("a full log of the smallest", y.told(3), 160);
        y.cut(160);
        Check.due("all are found", y.open(), 40);
        Check.due("the last one's value", y.get(177, 0), 40);
        Check.due("number", y.word(2), 41);
        RedoHeap z = Heaps.withBlock();
        z.begin();
        z.set(177, 0, -1);
        z.set(177, 1, 4096 * 2 + 1);
        z.set(177, 2, -5);
        z.commit(true);
        z.cut(0);
        Check.due("values that look like fronts and backs", z.open(), 1);
        Check.due("are values", z.get(177, 1), 4096 * 2 + 1);
    }

    private static void openingFindsNoTornOne() {
        Check.sentence("and its BACK is below 0");
        for (int k = 4; k <= 10; k++) {
            RedoHeap x = Heaps.withBlock();
            Heaps.commit(x, 1, 8, false);
            Heaps.commit(x, 2, -9, false);
            Check.due("both wait", x.cut(k), 10);
            Check.due("found, kept " + k, x.open(), k == 10 ? 2 : 1);
            Check.due("the first word", x.get(177, 0), k == 10 ? -9 : 8);
            Check.due("the second word", x.get(177, 1), k == 10 ? -9 : 0);
            Check.due("number", x.told(6), k == 10 ? 3 : 2);
        }
        RedoHeap y = Heaps.withBlock();
        Heaps.commit(y, 79, 3, false);
        y.cut(159);
        Check.due("all but the back of a full log", y.open(), 0);
        Check.due("the value", y.get(177, 78), 0);
        Check.due("the log is clear", y.word(16) + y.word(174), 0);
    }

    private static void openingOfACleanLog() {
        Check.sentence("Then, if THE LOG has any WORD that is not 0, all is done as by a CHECKPOINT, "
            + "with the COMMITS that are there");
        RedoHeap x = Heaps.withBlock();
        x.cut(0);
        int writes = x.count(2);
        int syncs = x.count(3);
        Check.due("all are 0", x.open(), 0);
        Check.due("no write", x.count(2), writes);
        Check.due("no sync", x.count(3), syncs);
        Check.due("generation", x.told(5), 2);
        RedoHeap y = Heaps.withTwoCommits();
        writes = y.count(2);
        syncs = y.count(3);
        y.cut(0);
        Check.due("two commits", y.open(), 2);
        Check.due("writes", y.count(2) - writes, 3 + 1 + 10 + 1);
        Check.due("syncs", y.count(3) - syncs, 2);
        Check.due("generation", y.word(0), 3);
        Check.due("number", y.word(2), 3);
        RedoHeap z = Heaps.withTwoCommits();
        z.power(15, 10);
        z.checkpoint();
        Check.due("cleared, but for the generation", z.word(0), 2);
        Check.due("open", z.open(), 0);
        Check.due("it stays", z.told(5), 2);
        Check.due("number", z.told(6), 3);
        Check.due("and serves again", Heaps.commit(z, 1, 1, true), 4);
        Check.due("front", z.word(16), 2 * 4096 + 1);
    }

    private static void openingWithoutCommit() {
        Check.sentence("(without one WORD 2 is written as it is)");
        RedoHeap x = Heaps.withBlock();
        Heaps.commit(x, 1, 8, false);
        x.cut(1);
        int writes = x.count(2);
        Check.due("a front alone", x.open(), 0);
        Check.due("WORD 2, the front, WORD 0", x.count(2) - writes, 3);
        Check.due("WORD 2", x.word(2), 1);
        Check.due("WORD 0", x.word(0), 3);
        Check.due("the front is cleared", x.word(16), 0);
        RedoHeap y = Heaps.begun();
        y.take(1);
        y.commit(false);
        y.cut(5);
        Check.due("before any commit", y.open(), 0);
        Check.due("WORD 2", y.word(2), 0);
        Check.due("the next number", y.begin(), 1);
    }

    private static void openingClearsToTheLast() {
        Check.sentence("and 0 for all WORDS of THE LOG up to its last one that is not 0.");
        // A commit that sets two words to 0: of FRONT, 177, 0, 178, 0, BACK some are 0 as they are.
        int[] cleared = {0, 1, 2, 2, 4, 4, 6};
        for (int k = 1; k <= 6; k++) {
            RedoHeap x = Heaps.row(200);
            x.set(177, 0, 5);
            x.set(177, 1, 5);
            x.commit(true);
            x.checkpoint();
            Heaps.commit(x, 2, 0, false);
            x.cut(k);
            int writes = x.count(2);
            Check.due("found", x.open(), k == 6 ? 1 : 0);
            int places = k == 6 ? 2 : 0;
            Check.due("writes, kept " + k, x.count(2) - writes, places + 1 + cleared[k] + 1);
        }
        RedoHeap y = Heaps.withTwoCommits();
        y.power(9, 5000);
        y.checkpoint();
        Check.due("five words are cleared", y.word(20), 0);
        Check.due("five are not", y.word(25), -4);
        int writes = y.count(2);
        y.open();
        Check.due("all ten are cleared anew", y.count(2) - writes, 1 + 10 + 1);
        Check.due("generation", y.word(0), 3);
    }

    private static void openingNumber() {
        Check.sentence("The number of the last COMMIT is what WORD 2 tells then.");
        RedoHeap x = Heaps.withTwoCommits();
        Heaps.commit(x, 1, 10, false);
        Check.due("before", x.told(6), 4);
        x.cut(0);
        x.open();
        Check.due("a lost one's number is free again", x.told(6), 3);
        Check.due("WORD 2", x.word(2), 3);
        Check.due("begin", x.begin(), 4);
        x.abort();
        x.cut(0);
        x.open();
        Check.due("a clean log", x.told(6), 3);
        RedoHeap y = Heaps.opened();
        y.cut(0);
        y.open();
        Check.due("none", y.told(6), 0);
    }
}
