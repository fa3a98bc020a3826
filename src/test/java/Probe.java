/** What an object shows, in parts: each part takes some 300 calls at most, so that 512 are not passed. */
final class Probe {
    static final int PARTS = 11;
    private static final int QUARTER = 256;
    private static final int MOST_BLOCKS = 60;

    private Probe() {
    }

    /** The object is of no more use then: some parts are what it does when it goes on. */
    static String ask(RedoHeap x, int part) {
        boolean on = x.count(0) == 1;
        boolean begun = x.count(1) == 1;
        switch (part) {
            case 0: case 1: case 2: case 3:
                return words(x, part * QUARTER, QUARTER);
            case 4:
                return counts(x) + (on ? told(x) : "") + x.power(0, 0);
            case 5:
                return on ? blocks(x) : "off";
            case 6:
                return on ? bodies(x) : "off";
            case 7:
                return (on ? x.cut(0) + " " : "") + x.open() + " " + told(x) + blocks(x) + counts(x);
            case 8:
                return begun ? x.commit(true) + " " + counts(x) + words(x, 16, 160) : "none";
            case 9:
                return begun ? x.abort() + " " + told(x) + blocks(x) : "none";
            default:
                return on && !begun ? x.checkpoint() + " " + counts(x) + words(x, 0, QUARTER) : "none";
        }
    }

    private static String words(RedoHeap x, int from, int n) {
        StringBuilder text = new StringBuilder();
        for (int i = from; i < from + n; i++) {
            text.append(x.word(i)).append(' ');
        }
        return text.toString();
    }

    private static String counts(RedoHeap x) {
        StringBuilder text = new StringBuilder();
        for (int what = 0; what <= 6; what++) {
            text.append(x.count(what)).append(' ');
        }
        return text.toString();
    }

    private static String told(RedoHeap x) {
        StringBuilder text = new StringBuilder();
        for (int what = 0; what <= 7; what++) {
            text.append(x.told(what)).append(' ');
        }
        return text.append(x.root()).append(' ').toString();
    }

    /** Every block's address, size and use, as one text. */
    static String blocks(RedoHeap x) {
        StringBuilder text = new StringBuilder();
        for (int i = 0; i < MOST_BLOCKS && x.block(i, 0) != RedoHeap.NONE; i++) {
            text.append('[').append(x.block(i, 0)).append(' ').append(x.block(i, 1));
            text.append(x.block(i, 2) == 1 ? " used]" : " free]");
        }
        return text.toString();
    }

    private static String bodies(RedoHeap x) {
        StringBuilder text = new StringBuilder();
        for (int i = 0; i < MOST_BLOCKS / 2 && x.block(i, 0) != RedoHeap.NONE; i++) {
            int address = x.block(i, 0);
            int size = x.block(i, 2) == 1 ? Math.min(100, x.block(i, 1)) : 0;
            for (int w = 0; w < size; w++) {
                text.append(x.get(address, w)).append(' ');
            }
        }
        return text.toString();
    }
}
