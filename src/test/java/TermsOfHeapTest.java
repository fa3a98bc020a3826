/** The boundary cases that sentences of "What it is" and of "Terms" name: the disk, the heap, transactions. */
public final class TermsOfHeapTest {
    public static void main(String[] args) {
        callsOfAnObject();
        wordsOfTheDisk();
        writesWait();
        whatIsRead();
        wordsThatAreNotUsed();
        theLogsEnds();
        theSmallestBodies();
        theLargestBody();
        anAddress();
        format();
        atFirst();
        transactionOfNothing();
        changeToTheSame();
        changeBack();
        atMost96();
        takeTheFirst();
        takeWithOrWithoutRest();
        takeChangesTwoHeads();
        takeLeavesTheBody();
        giveWithNext();
        giveWithTheOneBefore();
        giveIsOneChange();
        Check.done("TermsOfHeapTest");
    }

    private static void callsOfAnObject() {
        Check.sentence("An object is used for at most 512 calls after it has been made");
        RedoHeap x = Heaps.begun();
        x.take(2);
        x.commit(false);
        for (int round = 1; round <= 169; round++) {
            Check.due("begin", x.begin(), round + 1);
            Check.due("set", x.set(177, 0, round), true);
            Check.due("commit", x.commit(true), round + 1);
        }
        Check.due("the 512th call", x.get(177, 0), 169);
    }

    private static void wordsOfTheDisk() {
        Check.sentence("THE DISK has 1024 WORDS (longs), numbered from 0 on, at first all 0.");
        for (int from = 0; from < 1024; from += 256) {
            RedoHeap x = new RedoHeap();
            for (int i = from; i < from + 256; i++) {
                Check.due("word " + i, x.word(i), 0);
            }
        }
        RedoHeap x = new RedoHeap();
        Check.throwsIndex("one below the first", () -> x.word(-1));
        Check.throwsIndex("one behind the last", () -> x.word(1024));
        long[] edges = {Long.MIN_VALUE, Long.MAX_VALUE, 1L << 32, -1L, 0L};
        RedoHeap y = Heaps.row(5);
        for (int i = 0; i < edges.length; i++) {
            y.set(177, i, edges[i]);
        }
        y.commit(true);
        y.checkpoint();
        for (int i = 0; i < edges.length; i++) {
            Check.due("a long in its place", y.word(177 + i), edges[i]);
            Check.due("a long as it is read", y.get(177, i), edges[i]);
        }
    }

    private static void writesWait() {
        Check.sentence("A WRITE gives a WORD a value; WRITES WAIT, in the order in which they come, till a SYNC, "
            + "by which all that wait are on THE DISK.");
        RedoHeap x = Heaps.withBlock();
        Check.due("none waits", x.sync(), 0);
        Heaps.commit(x, 77, 5, false);
        Heaps.commit(x, 1, 6, false);
        Check.due("a full log waits", x.count(6), 160);
        Check.due("the first is not on the disk", x.word(16), 0);
        Check.due("nor is the last", x.word(175), 0);
        Check.due("all that waited", x.sync(), 160);
        Check.due("the first is on the disk", x.word(16), 2 * 4096 + 77);
        Check.due("and the last", x.word(175), -4);
        Check.due("none waits", x.count(6), 0);
        for (int kept = 0; kept <= 3; kept++) {
            RedoHeap y = Heaps.withTwoCommits();
            y.power(3, kept);
            y.checkpoint();
            Check.due("one word, two writes, kept " + kept, y.word(177), kept == 0 ? 0 : kept == 1 ? 8 : 9);
        }
    }

    private static void whatIsRead() {
        Check.sentence("What is read is what was written last, waiting or not.");
        RedoHeap x = Heaps.withBlock();
        Heaps.commit(x, 1, 5, false);
        Heaps.commit(x, 1, 6, false);
        Check.due("no log on the disk", x.word(16), 0);
        Check.due("the last one's", x.get(177, 0), 6);
        Check.due("a checkpoint of what waits", x.checkpoint(), 2);
        Check.due("is in its place", x.word(177), 6);
        Heaps.commit(x, 1, 7, false);
        x.cut(0);
        x.open();
        Check.due("what is lost is not read", x.get(177, 0), 6);
    }

    private static void wordsThatAreNotUsed() {
        Check.sentence("WORD 0 GENERATION; 1 ROOT; 2 the number of a COMMIT; 3 .. 15 are not used.");
        RedoHeap x = Heaps.withBlock();
        for (int round = 0; round < 3; round++) {
            Heaps.change(x, 20, round + 1);
            x.setRoot(177);
            x.commit(round == 1);
            x.checkpoint();
        }
        x.cut(0);
        x.open();
        Check.due("generation", x.word(0), 5);
        Check.due("root", x.word(1), 177);
        Check.due("number", x.word(2), 4);
        for (int i = 3; i <= 15; i++) {
            Check.due("word " + i, x.word(i), 0);
        }
    }

    private static void theLogsEnds() {
        Check.sentence("THE LOG is WORDS 16 .. 175 (160 of them), THE HEAP WORDS 176 .. 1023");
        RedoHeap x = Heaps.withBlock();
        Heaps.commit(x, 79, -3, true);
        Check.due("all are used", x.told(3), 160);
        Check.due("nothing before it", x.word(15), 0);
        Check.due("its first", x.word(16), 2 * 4096 + 79);
        Check.due("its last", x.word(175), -3);
        Check.due("the heap's first", x.word(176), 401);
        RedoHeap y = Heaps.row(847);
        y.set(177, 0, 1);
        y.set(177, 846, -5);
        y.commit(true);
        y.checkpoint();
        Check.due("the heap's last", y.word(1023), -5);
        Check.due("it is read", y.get(177, 846), -5);
    }

    private static void theSmallestBodies() {
        Check.sentence("a row of BLOCKS, each a HEAD and a BODY of 1 .. 847 WORDS behind it; "
            + "the HEAD is twice the BODY's size, and 1 more if the BLOCK is USED.");
        RedoHeap x = Heaps.opened();
        for (int taken = 0; taken < 424; taken++) {
            if (taken % 77 == 0) {
                x.begin();
            }
            Check.due("take(1)", x.take(1), 177 + 2 * taken);
            if (taken % 77 == 76 || taken == 423) {
                Check.due("commit", x.commit(true), taken / 77 + 1);
            }
        }
        x.checkpoint();
        Check.due("blocks", x.told(2), 424);
        Check.due("nothing is free", x.told(0), 0);
        Check.due("nor the greatest", x.told(1), 0);
        Check.due("the last one", x.block(423, 0), 1023);
        Check.due("none behind it", x.block(424, 0), -1);
        Check.due("the first one's head", x.word(176), 3);
        Check.due("the last one's head", x.word(1022), 3);
        x.begin();
        Check.due("nothing more", x.take(1), -1);
        Check.due("the last one is given back", x.give(1023), 1);
        Check.due("one is free", x.told(0), 1);
        x.commit(true);
        x.checkpoint();
        Check.due("a smallest head that is not used", x.word(1022), 2);
        x.begin();
        Check.due("and is taken again", x.take(1), 1023);
    }

    private static void theLargestBody() {
        Check.sentence("a row of BLOCKS, each a HEAD and a BODY of 1 .. 847 WORDS behind it; "
            + "the HEAD is twice the BODY's size, and 1 more if the BLOCK is USED.");
        RedoHeap x = Heaps.opened();
        Check.due("not used", x.word(176), 1694);
        x.begin();
        Check.due("take(847)", x.take(847), 177);
        x.commit(true);
        x.checkpoint();
        Check.due("used", x.word(176), 1695);
        Check.due("one block", x.told(2), 1);
        Check.due("nothing is free", x.told(0), 0);
        x.begin();
        Check.due("give", x.give(177), 847);
        x.commit(true);
        x.checkpoint();
        Check.due("not used again", x.word(176), 1694);
    }

    private static void anAddress() {
        Check.sentence("A BLOCK's ADDRESS is its BODY's first WORD.");
        RedoHeap x = Heaps.row(3, 2);
        Check.due("the first one's", x.block(0, 0), 177);
        Check.due("the second one's", x.block(1, 0), 181);
        x.set(181, 0, 44);
        x.commit(true);
        x.checkpoint();
        Check.due("its first word", x.word(181), 44);
        Check.due("its head", x.word(180), 5);
    }

    private static void format() {
        Check.sentence("FORMAT: WRITES of WORD 176 (1694: one BLOCK of 847 that is not USED), of WORD 1 (0), "
            + "then of WORD 0 (1), in this order; a SYNC.");
        for (int kept = 0; kept <= 4; kept++) {
            RedoHeap x = new RedoHeap();
            x.power(3, kept);
            Check.due("the power goes at the third write", x.open(), -2);
            Check.due("the head comes first", x.word(176), kept >= 1 ? 1694 : 0);
            Check.due("the generation third", x.word(0), kept >= 3 ? 1 : 0);
            Check.due("no sync", x.count(3), 0);
            Check.due("three writes", x.count(2), 3);
            Check.due("lost", x.count(5), Math.max(0, 3 - kept));
        }
        RedoHeap y = Heaps.opened();
        Check.due("three writes", y.count(2), 3);
        Check.due("a sync", y.count(3), 1);
        Check.due("none waits", y.count(6), 0);
        Check.due("one block", Probe.blocks(y), "[177 847 free]");
    }

    private static void atFirst() {
        Check.sentence("At first the power is off, and THE DISK not FORMATTED.");
        RedoHeap x = new RedoHeap();
        Check.due("off", x.count(0), 0);
        Check.due("it never went", x.count(4), 0);
        Check.due("no head", x.word(176), 0);
        Check.due("no generation", x.word(0), 0);
    }

    private static void transactionOfNothing() {
        Check.sentence("A TRANSACTION has its own CHANGES of WORDS of THE HEAP, and of ROOT; "
            + "within it the heap is as these tell, and for WORDS without one as it was.");
        RedoHeap x = Heaps.withBlock();
        Heaps.commit(x, 2, 5, true);
        x.begin();
        Check.due("without changes all is as it was", x.get(177, 0), 5);
        x.set(177, 0, 6);
        x.setRoot(177);
        Check.due("with a change", x.get(177, 0), 6);
        Check.due("without one", x.get(177, 1), 5);
        Check.due("root", x.root(), 177);
        x.abort();
        Check.due("its own are gone", x.get(177, 0), 5);
        Check.due("root too", x.root(), 0);
        x.begin();
        Check.due("and not in the next one", x.get(177, 0), 5);
        Check.due("which has none", x.told(7), 0);
    }

    private static void changeToTheSame() {
        Check.sentence("A CHANGE to the value that the WORD has already is none, "
            + "if there is no CHANGE of this WORD yet");
        RedoHeap x = Heaps.withBlock();
        Heaps.commit(x, 1, 5, true);
        x.begin();
        Check.due("a word in its place", x.set(177, 1, 0), true);
        Check.due("a word in the log", x.set(177, 0, 5), true);
        Check.due("root", x.setRoot(0), true);
        Check.due("none is a change", x.told(7), 0);
        Check.due("so the commit has none", x.commit(true), 2);
        Check.due("and the log is as it was", x.told(3), 4);
        RedoHeap y = Heaps.row(9);
        y.give(177);
        y.commit(true);
        y.begin();
        y.take(9);
        Check.due("the rest's head stood there still", y.told(7), 1);
        y.commit(true);
        Check.due("one word in the log", y.word(20), 2 * 4096 + 1);
        Check.due("the taken one's", y.word(21), 176);
        RedoHeap z = Heaps.changing(96);
        Check.due("96 others do not matter", z.set(177, 150, 0), true);
        Check.due("nor for root", z.setRoot(0), true);
        Check.due("changes", z.told(7), 96);
    }

    private static void changeBack() {
        Check.sentence("else the CHANGE is to that value.");
        RedoHeap x = Heaps.withBlock();
        Heaps.commit(x, 1, 5, true);
        x.begin();
        x.set(177, 0, 6);
        x.setRoot(177);
        Check.due("back again", x.set(177, 0, 5), true);
        Check.due("root back again", x.setRoot(0), true);
        Check.due("they stay changes", x.told(7), 2);
        Check.due("to these values", x.get(177, 0) + x.root(), 5);
        Check.due("to what it is already", x.set(177, 0, 5), true);
        Check.due("the commit counts them", x.commit(true), 3);
        Check.due("front", x.word(20), 2 * 4096 + 2);
        Check.due("root's value", x.word(22), 0);
        Check.due("the word's value", x.word(24), 5);
    }

    private static void atMost96() {
        Check.sentence("At most 96 WORDS have CHANGES; what would change more is refused.");
        RedoHeap x = Heaps.changing(95);
        Check.due("the 96th", x.set(177, 95, 7), true);
        Check.due("the 97th", x.set(177, 96, 7), false);
        Check.due("it is as it was", x.get(177, 96), 0);
        Check.due("root as the 97th", x.setRoot(177), false);
        Check.due("it is as it was", x.root(), 0);
        Check.due("taking as the 97th", x.take(646), -1);
        Check.due("giving back as the 97th", x.give(177), -1);
        Check.due("one of the 96 anew", x.set(177, 0, 8), true);
        Check.due("changes", x.told(7), 96);
        Check.due("abort", x.abort(), 96);
        RedoHeap y = Heaps.changing(95);
        Check.due("root as the 96th", y.setRoot(177), true);
        Check.due("root once more", y.setRoot(0), true);
        Check.due("changes", y.told(7), 96);
        RedoHeap z = Heaps.changing(95);
        Check.due("giving back as the 96th", z.give(177), 847);
        Check.due("taking what it changed already", z.take(847), 177);
        Check.due("changes", z.told(7), 96);
    }

    private static void takeTheFirst() {
        Check.sentence("TO TAKE n WORDS: the first BLOCK, by ADDRESSES, that is not USED and has n or more is USED then");
        RedoHeap x = Heaps.row(5, 1, 6, 1, 5, 800);
        x.give(177);
        x.give(185);
        x.give(194);
        x.give(200);
        Check.due("blocks", Probe.blocks(x), "[177 5 free][183 1 used][185 6 free][192 1 used][194 830 free]");
        Check.due("one too small, the next one fits just", x.take(6), 185);
        Check.due("both too small", x.take(7), 194);
        Check.due("the first one fits just", x.take(5), 177);
        RedoHeap y = Heaps.row(5, 1, 6, 832);
        Check.due("no block is free", y.take(1), -1);
        y.give(185);
        Check.due("one more than the only one has", y.take(7), -1);
        Check.due("as many as it has", y.take(6), 185);
    }

    private static void takeWithOrWithoutRest() {
        Check.sentence("if it has n + 2 or more, its size becomes n, "
            + "and behind it is a BLOCK that is not USED with the rest (less its HEAD)");
        RedoHeap x = Heaps.row(10, 836);
        x.give(177);
        Check.due("n", x.take(10), 177);
        Check.due("no rest", Probe.blocks(x), "[177 10 used][188 836 used]");
        x.give(177);
        Check.due("n + 1", x.take(9), 177);
        Check.due("no rest, and one word more", Probe.blocks(x), "[177 10 used][188 836 used]");
        Check.due("that word is its own", x.set(177, 9, 3), true);
        x.give(177);
        Check.due("n + 2", x.take(8), 177);
        Check.due("a rest of one", Probe.blocks(x), "[177 8 used][186 1 free][188 836 used]");
        Check.throwsArgument("nothing behind its words", () -> x.set(177, 8, 3));
        x.give(177);
        Check.due("n + 3", x.take(7), 177);
        Check.due("a rest of two", Probe.blocks(x), "[177 7 used][185 2 free][188 836 used]");
        String[] whole = {"[177 847 used]", "[177 847 used]", "[177 845 used][1023 1 free]"};
        for (int less = 0; less < whole.length; less++) {
            RedoHeap y = Heaps.begun();
            Check.due("all of the heap, less " + less, y.take(847 - less), 177);
            Check.due("then the blocks are", Probe.blocks(y), whole[less]);
        }
    }

    private static void takeChangesTwoHeads() {
        Check.sentence("first the HEAD of the new one, then that of the taken one is a CHANGE.");
        RedoHeap x = Heaps.withBlock();
        x.begin();
        x.take(4);
        Check.due("with a rest two", x.told(7), 2);
        x.commit(true);
        long[] log = {2 * 4096 + 2, 377, 9, 382, 2 * 641, -3};
        for (int i = 0; i < log.length; i++) {
            Check.due("word " + (16 + i), x.word(16 + i), log[i]);
        }
        x.begin();
        x.take(641);
        Check.due("without a rest one", x.told(7), 1);
        RedoHeap y = Heaps.changing(95);
        Check.due("two are too many with 95", y.take(4), -1);
        Check.due("neither is done", y.told(7), 95);
        Check.due("blocks", Probe.blocks(y), "[177 200 used][378 646 free]");
        Check.due("one is not", y.take(646), 378);
        RedoHeap z = Heaps.changing(94);
        Check.due("two are not with 94", z.take(4), 378);
        Check.due("changes", z.told(7), 96);
        Check.due("one of the next two has a change, but not the other", z.take(4), -1);
        Check.due("changes", z.told(7), 96);
        Check.due("whole, it needs that one only", z.take(641), 383);
    }

    private static void takeLeavesTheBody() {
        Check.sentence("What was in a BODY stays.");
        RedoHeap x = Heaps.row(3, 3);
        x.set(177, 0, 11);
        x.set(177, 2, 13);
        x.set(181, 0, 21);
        x.give(177);
        x.give(181);
        Check.due("taken as one", x.take(7), 177);
        Check.due("first", x.get(177, 0), 11);
        Check.due("last", x.get(177, 2), 13);
        Check.due("a head that is a word of the body", x.get(177, 3), 7);
        Check.due("the other one's", x.get(177, 4), 21);
        Check.due("a word that was never set", x.get(177, 6), 0);
    }

    private static void giveWithNext() {
        Check.sentence("it is not USED; if the next one is not USED, it becomes a part of it "
            + "(its HEAD is a WORD of the BODY then)");
        RedoHeap x = Heaps.row(5, 6, 7, 826);
        Check.due("between used ones", x.give(183), 6);
        Check.due("the next one is free", x.give(177), 12);
        Check.due("blocks", Probe.blocks(x), "[177 12 free][190 7 used][198 826 used]");
        Check.due("the heap's last one has none behind it", x.give(198), 826);
        Check.due("blocks", Probe.blocks(x), "[177 12 free][190 7 used][198 826 free]");
        Check.throwsArgument("what became a part is no block", () -> x.give(183));
        x.take(12);
        Check.due("its head is a word of the body", x.get(177, 5), 12);
        RedoHeap y = Heaps.row(1, 1, 843);
        y.give(179);
        Check.due("a smallest one behind a smallest one", y.give(177), 3);
        Check.due("blocks", Probe.blocks(y), "[177 3 free][181 843 used]");
    }

    private static void giveWithTheOneBefore() {
        Check.sentence("then, if the one before it is not USED, that takes it in likewise.");
        RedoHeap x = Heaps.row(5, 6, 7, 8, 817);
        Check.due("the heap's first one has none before it", x.give(177), 5);
        Check.due("the one before is free", x.give(183), 12);
        Check.due("blocks", Probe.blocks(x), "[177 12 free][190 7 used][198 8 used][207 817 used]");
        Check.due("the one before is used", x.give(198), 8);
        Check.due("both are free", x.give(190), 29);
        Check.due("blocks", Probe.blocks(x), "[177 29 free][207 817 used]");
        Check.due("the heap's last one", x.give(207), 847);
        Check.due("all is one", Probe.blocks(x), "[177 847 free]");
        RedoHeap y = Heaps.row(1, 1, 1, 841);
        y.give(177);
        Check.due("a smallest one before a smallest one", y.give(179), 3);
        Check.due("blocks", Probe.blocks(y), "[177 3 free][181 1 used][183 841 used]");
        Check.due("then one behind it", y.give(181), 5);
        RedoHeap z = Heaps.row(1, 1, 1, 841);
        z.give(177);
        z.give(181);
        Check.due("smallest ones on both sides", z.give(179), 5);
        Check.due("blocks", Probe.blocks(z), "[177 5 free][183 841 used]");
    }

    private static void giveIsOneChange() {
        Check.sentence("(Just one CHANGE: that of the HEAD of the BLOCK that there is then.)");
        int[] addresses = {183, 177, 190};
        int[] heads = {182, 176, 182};
        int[] sizes = {6, 12, 14};
        for (int i = 0; i < addresses.length; i++) {
            RedoHeap x = Heaps.row(5, 6, 7, 826);
            if (i > 0) {
                x.give(183);
                x.commit(true);
                x.checkpoint();
                x.begin();
            }
            Check.due("give", x.give(addresses[i]), sizes[i]);
            Check.due("one change", x.told(7), 1);
            x.commit(true);
            Check.due("of the head", x.word(17), heads[i]);
            Check.due("with the size", x.word(18), 2 * sizes[i]);
        }
        RedoHeap y = Heaps.row(5, 6, 7, 826);
        y.give(177);
        y.give(190);
        y.commit(true);
        y.begin();
        Check.due("with both neighbours", y.give(183), 20);
        Check.due("one change", y.told(7), 1);
        y.commit(true);
        y.checkpoint();
        Check.due("the head of all", y.word(176), 40);
        Check.due("its own head stays", y.word(182), 13);
        Check.due("the next one's too", y.word(189), 14);
    }
}
