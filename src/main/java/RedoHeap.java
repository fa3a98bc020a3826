/**
 * A heap on a disk that may lose power at any write: blocks are taken and given back within
 * transactions, whose changes go to a log before they are good, and from there to their places;
 * when the power comes back the log is gone through.
 */
public final class RedoHeap {
    public static final int NONE = -1;
    public static final int OFF = -2;

    private static final int WORDS = 1024;
    private static final int GENERATION = 0;
    private static final int ROOT = 1;
    private static final int LAST_NUMBER = 2;
    private static final int LOG_START = 16;
    private static final int LOG_WORDS = 160;
    private static final int HEAP_START = 176;
    private static final int LARGEST_BODY = 847;
    private static final int MOST_CHANGES = 96;
    private static final int MOST_TOLD = 5000;
    private static final long FRONT_STEP = 4096L;

    // A full log and the places of its commits wait at most: 160 + 79 + 1 writes.
    private static final int MOST_WAITING = 320;

    private final Disk disk;
    private final Log log;
    private final Changes changes;
    private final Blocks blocks;

    public RedoHeap() {
        disk = new Disk();
        log = new Log(disk);
        changes = new Changes();
        blocks = new Blocks(changes);
    }

    public int begin() throws IllegalStateException {
        needPower();
        if (changes.areOpen()) {
            throw new IllegalStateException("a transaction is open");
        }
        changes.start();
        return log.lastNumber() + 1;
    }

    public int take(int n) throws IllegalStateException, IllegalArgumentException {
        needTransaction();
        if (n < 1 || n > LARGEST_BODY) {
            throw new IllegalArgumentException("no block has so many words");
        }
        return blocks.takeFirst(n);
    }

    public int give(int address) throws IllegalStateException, IllegalArgumentException {
        needTransaction();
        needUsedBlock(address);
        return blocks.giveBack(address - 1);
    }

    public boolean set(int address, int i, long v) throws IllegalStateException, IllegalArgumentException {
        needTransaction();
        needBodyWord(address, i);
        return changes.change(address + i, v);
    }

    public long get(int address, int i) throws IllegalStateException, IllegalArgumentException {
        needPower();
        needBodyWord(address, i);
        return changes.read(address + i);
    }

    public boolean setRoot(int address) throws IllegalStateException, IllegalArgumentException {
        needTransaction();
        if (address != 0) {
            needUsedBlock(address);
        }
        return changes.change(ROOT, address);
    }

    public int root() throws IllegalStateException {
        needPower();
        return (int) changes.read(ROOT);
    }

    public int commit(boolean sync) throws IllegalStateException {
        needTransaction();
        if (changes.size() == 0) {
            changes.accept();
            return log.lastNumber();
        }
        boolean powered = log.hasRoomFor(changes.size()) || log.carryOut(log.used());
        if (powered && !log.hasRoomFor(changes.size())) {
            return NONE;
        }
        if (!powered || !log.append(changes, sync)) {
            changes.drop();
            return OFF;
        }
        changes.accept();
        return log.lastNumber();
    }

    public int sync() throws IllegalStateException {
        needPower();
        int waited = disk.waiting();
        disk.settleAll();
        return waited;
    }

    public int abort() throws IllegalStateException {
        needTransaction();
        int had = changes.size();
        changes.takeBack();
        return had;
    }

    public int checkpoint() throws IllegalStateException {
        needPower();
        if (changes.areOpen()) {
            throw new IllegalStateException("a transaction is open");
        }
        int had = log.commits();
        return log.carryOut(log.used()) ? had : OFF;
    }

    public int power(int n, int k) throws IllegalArgumentException {
        if (n < 0 || n > MOST_TOLD || k < 0 || k > MOST_TOLD) {
            throw new IllegalArgumentException("not 0 .. 5000");
        }
        return disk.limit(n, k);
    }

    public int cut(int k) throws IllegalStateException, IllegalArgumentException {
        needPower();
        if (k < 0) {
            throw new IllegalArgumentException("below 0");
        }
        int waited = disk.waiting();
        disk.losePower(k);
        changes.drop();
        return waited;
    }

    public int open() throws IllegalStateException {
        if (disk.isOn()) {
            throw new IllegalStateException("the power is on");
        }
        disk.powerUp();
        int found = 0;
        if (disk.read(GENERATION) == 0L) {
            format();
        } else {
            found = log.findCommits();
            log.carryOut(log.dirtyWords());
        }
        if (!disk.isOn()) {
            return OFF;
        }
        changes.load(disk);
        return found;
    }

    public long word(int i) throws IndexOutOfBoundsException {
        if (!isWord(i)) {
            throw new IndexOutOfBoundsException("no such word");
        }
        return disk.settled(i);
    }

    public int block(int i, int what) throws IllegalStateException, IndexOutOfBoundsException {
        needPower();
        if (what < 0 || what > 2) {
            throw new IndexOutOfBoundsException("no such question");
        }
        int head = blocks.headOf(i);
        if (head == NONE) {
            return NONE;
        }
        switch (what) {
            case 0:
                return head + 1;
            case 1:
                return blocks.sizeAt(head);
            default:
                return blocks.isUsed(head) ? 1 : 0;
        }
    }

    public int told(int what) throws IllegalStateException, IndexOutOfBoundsException {
        needPower();
        switch (what) {
            case 0:
                return blocks.freeWords();
            case 1:
                return blocks.greatestFree();
            case 2:
                return blocks.howMany();
            case 3:
                return log.used();
            case 4:
                return log.commits();
            case 5:
                return (int) disk.read(GENERATION);
            case 6:
                return log.lastNumber();
            case 7:
                return changes.size();
            default:
                throw new IndexOutOfBoundsException("no such question");
        }
    }

    public int count(int what) throws IndexOutOfBoundsException {
        switch (what) {
            case 0:
                return disk.isOn() ? 1 : 0;
            case 1:
                return changes.areOpen() ? 1 : 0;
            case 2:
                return disk.writes();
            case 3:
                return disk.syncs();
            case 4:
                return disk.failures();
            case 5:
                return disk.lost();
            case 6:
                return disk.waiting();
            default:
                throw new IndexOutOfBoundsException("no such question");
        }
    }

    private void needPower() {
        if (!disk.isOn()) {
            throw new IllegalStateException("the power is off");
        }
    }

    private void needTransaction() {
        needPower();
        if (!changes.areOpen()) {
            throw new IllegalStateException("no transaction is open");
        }
    }

    private void needUsedBlock(int address) {
        if (!blocks.isUsedAddress(address)) {
            throw new IllegalArgumentException("no used block has this address");
        }
    }

    private void needBodyWord(int address, int i) {
        needUsedBlock(address);
        if (i < 0 || i >= blocks.sizeAt(address - 1)) {
            throw new IllegalArgumentException("the block has no such word");
        }
    }

    /** The generation comes last: without it the disk counts as not formatted. */
    private void format() {
        if (disk.write(HEAP_START, 2L * LARGEST_BODY) && disk.write(ROOT, 0L) && disk.write(GENERATION, 1L)) {
            disk.settleAll();
            log.forget();
        }
    }

    private static boolean isWord(int i) {
        return i >= 0 && i < WORDS;
    }

    /** The words, the writes that wait for a sync, and the power. */
    private static final class Disk {
        private final long[] settled = new long[WORDS];
        private final long[] latest = new long[WORDS];
        private final int[] waitingPlace = new int[MOST_WAITING];
        private final long[] waitingValue = new long[MOST_WAITING];
        private int waiting;
        private boolean on;
        private int writesLeft;
        private int keepsThen;
        private int writes;
        private int syncs;
        private int failures;
        private int lost;

        boolean isOn() {
            return on;
        }

        int waiting() {
            return waiting;
        }

        int writes() {
            return writes;
        }

        int syncs() {
            return syncs;
        }

        int failures() {
            return failures;
        }

        int lost() {
            return lost;
        }

        long settled(int i) {
            return isWord(i) ? settled[i] : 0L;
        }

        long read(int i) {
            return isWord(i) ? latest[i] : 0L;
        }

        /** Answers whether the power is on still: what was being done ends when it is not. */
        boolean write(int place, long value) {
            if (!on || !isWord(place) || waiting >= MOST_WAITING) {
                return on;
            }
            latest[place] = value;
            waitingPlace[waiting] = place;
            waitingValue[waiting] = value;
            waiting++;
            writes++;
            if (writesLeft > 0) {
                writesLeft--;
                if (writesLeft == 0) {
                    losePower(keepsThen);
                }
            }
            return on;
        }

        void settleAll() {
            settleFirst(waiting);
            waiting = 0;
            syncs++;
        }

        /** Answers after how many writes more the power would have gone. */
        int limit(int n, int k) {
            int before = writesLeft;
            writesLeft = n;
            keepsThen = k;
            return before;
        }

        void losePower(int keeps) {
            int stay = Math.min(keeps, waiting);
            settleFirst(stay);
            lost += waiting - stay;
            waiting = 0;
            writesLeft = 0;
            on = false;
            failures++;
            System.arraycopy(settled, 0, latest, 0, WORDS);
        }

        void powerUp() {
            on = true;
        }

        private void settleFirst(int n) {
            for (int i = 0; i < n && i < MOST_WAITING; i++) {
                int place = waitingPlace[i];
                if (isWord(place)) {
                    settled[place] = waitingValue[i];
                }
            }
        }
    }

    /** The commits that are not in their places yet. */
    private static final class Log {
        private final Disk disk;
        private int used;
        private int commits;
        private int lastNumber;

        Log(Disk disk) {
            this.disk = disk;
        }

        int used() {
            return used;
        }

        int commits() {
            return commits;
        }

        int lastNumber() {
            return lastNumber;
        }

        boolean hasRoomFor(int d) {
            return used + 2 + 2 * d <= LOG_WORDS;
        }

        /** Answers whether the power stayed on; the commit counts only then. */
        boolean append(Changes changes, boolean sync) {
            int at = LOG_START + used;
            int end = at + 1 + 2 * changes.size();
            if (!disk.write(at, front(changes.size())) || !appendWords(changes, at + 1)
                    || !disk.write(end, -1L - (lastNumber + 1))) {
                return false;
            }
            if (sync) {
                disk.settleAll();
            }
            used = end + 1 - LOG_START;
            commits++;
            lastNumber++;
            return true;
        }

        /** The checkpoint, of a log with so many words to clear; answers whether the power stayed on. */
        boolean carryOut(int words) {
            if (words == 0) {
                return true;
            }
            if (!writePlaces() || !disk.write(LAST_NUMBER, lastNumber)) {
                return false;
            }
            // The log may go only when all that it tells is safe.
            disk.settleAll();
            for (int i = 0; i < words; i++) {
                if (!disk.write(LOG_START + i, 0L)) {
                    return false;
                }
            }
            if (!disk.write(GENERATION, disk.read(GENERATION) + 1L)) {
                return false;
            }
            disk.settleAll();
            used = 0;
            commits = 0;
            return true;
        }

        /** Goes through the log when the power is back; answers how many commits are in it. */
        int findCommits() {
            forget();
            for (int size = commitSize(0); size > 0 && used + size <= LOG_WORDS; size = commitSize(used)) {
                used += size;
                commits++;
                lastNumber = (int) (-1L - disk.read(LOG_START + used - 1));
            }
            return commits;
        }

        /** How many words the log has up to its last one that is not 0: a torn commit's too. */
        int dirtyWords() {
            for (int n = LOG_WORDS; n > 0; n--) {
                if (disk.read(LOG_START + n - 1) != 0L) {
                    return n;
                }
            }
            return 0;
        }

        /** Nothing is in the log; the last commit is the one that the disk tells. */
        void forget() {
            used = 0;
            commits = 0;
            lastNumber = (int) disk.read(LAST_NUMBER);
        }

        private boolean writePlaces() {
            int size;
            for (int at = 0; at < used; at += size) {
                size = commitSize(at);
                if (size == 0) {
                    return true;
                }
                for (int i = at + 1; i < at + size - 1; i += 2) {
                    int place = (int) disk.read(LOG_START + i);
                    if (!disk.write(place, disk.read(LOG_START + i + 1))) {
                        return false;
                    }
                }
            }
            return true;
        }

        private boolean appendWords(Changes changes, int start) {
            for (int i = 0; i < changes.size(); i++) {
                int place = changes.place(i);
                int at = start + 2 * i;
                if (!disk.write(at, place) || !disk.write(at + 1, changes.read(place))) {
                    return false;
                }
            }
            return true;
        }

        /** How many words the commit has that starts there; 0 when none does. */
        private int commitSize(int at) {
            long d = disk.read(LOG_START + at) - front(0);
            if (d < 1L || d > MOST_CHANGES) {
                return 0;
            }
            int size = 2 + 2 * (int) d;
            if (at + size > LOG_WORDS || disk.read(LOG_START + at + size - 1) >= 0L) {
                return 0;
            }
            return size;
        }

        private long front(int d) {
            return FRONT_STEP * disk.read(GENERATION) + d;
        }
    }

    /** The root and the heap's words, as they are and as the open transaction has them. */
    private static final class Changes {
        private final long[] good = new long[WORDS];
        // The same as what is good, but where the open transaction has a change.
        private final long[] own = new long[WORDS];
        private final boolean[] changed = new boolean[WORDS];
        // The words with changes, by their numbers: the order that a commit wants.
        private final int[] places = new int[MOST_CHANGES];
        private int size;
        private boolean open;

        boolean areOpen() {
            return open;
        }

        int size() {
            return size;
        }

        int place(int i) {
            return i >= 0 && i < size && i < MOST_CHANGES ? places[i] : NONE;
        }

        long read(int i) {
            return isWord(i) ? own[i] : 0L;
        }

        void start() {
            open = true;
        }

        /** How many more words would have changes, if this one became v. */
        int cost(int i, long v) {
            return !isWord(i) || changed[i] || own[i] == v ? 0 : 1;
        }

        boolean haveRoomFor(int more) {
            return size + more <= MOST_CHANGES;
        }

        /** Answers whether the word has the value then. */
        boolean change(int i, long v) {
            int more = cost(i, v);
            if (!isWord(i) || !haveRoomFor(more)) {
                return false;
            }
            if (more > 0) {
                changed[i] = true;
                insert(i);
            }
            own[i] = v;
            return true;
        }

        void accept() {
            for (int i = 0; i < size; i++) {
                int place = place(i);
                if (isWord(place)) {
                    good[place] = own[place];
                }
            }
            drop();
        }

        void takeBack() {
            for (int i = 0; i < size; i++) {
                int place = place(i);
                if (isWord(place)) {
                    own[place] = good[place];
                }
            }
            drop();
        }

        /** The transaction is no more; what it changed is accepted, taken back or loaded anew. */
        void drop() {
            for (int i = 0; i < size; i++) {
                int place = place(i);
                if (isWord(place)) {
                    changed[place] = false;
                }
            }
            size = 0;
            open = false;
        }

        void load(Disk disk) {
            for (int i = 0; i < WORDS; i++) {
                good[i] = disk.read(i);
            }
            System.arraycopy(good, 0, own, 0, WORDS);
        }

        private void insert(int place) {
            if (size >= MOST_CHANGES) {
                return;
            }
            int at = size;
            while (at > 0 && places[at - 1] > place) {
                places[at] = places[at - 1];
                at--;
            }
            places[at] = place;
            size++;
        }
    }

    /** The heap as a row of blocks, each named by its head's word. */
    private static final class Blocks {
        private final Changes words;

        Blocks(Changes words) {
            this.words = words;
        }

        int sizeAt(int head) {
            long size = words.read(head) >> 1;
            boolean fits = head >= HEAP_START && size >= 1L && size <= WORDS - 1L - head;
            return fits ? (int) size : 0;
        }

        boolean isUsed(int head) {
            return (words.read(head) & 1L) == 1L;
        }

        boolean isUsedAddress(int address) {
            for (int head = HEAP_START; head < WORDS && head < address; head += 1 + sizeAt(head)) {
                if (head + 1 == address) {
                    return isUsed(head);
                }
            }
            return false;
        }

        int headOf(int i) {
            int n = 0;
            for (int head = HEAP_START; head < WORDS; head += 1 + sizeAt(head)) {
                if (n == i) {
                    return head;
                }
                n++;
            }
            return NONE;
        }

        int howMany() {
            int n = 0;
            for (int head = HEAP_START; head < WORDS; head += 1 + sizeAt(head)) {
                n++;
            }
            return n;
        }

        int freeWords() {
            int sum = 0;
            for (int head = HEAP_START; head < WORDS; head += 1 + sizeAt(head)) {
                sum += freeAt(head);
            }
            return sum;
        }

        int greatestFree() {
            int greatest = 0;
            for (int head = HEAP_START; head < WORDS; head += 1 + sizeAt(head)) {
                greatest = Math.max(greatest, freeAt(head));
            }
            return greatest;
        }

        /** Answers the address, or NONE when no block is great enough or the changes are too many. */
        int takeFirst(int n) {
            int head = firstFree(n);
            if (head == NONE) {
                return NONE;
            }
            int size = sizeAt(head);
            boolean done = size >= n + 2 ? split(head, n, size) : words.change(head, 2L * size + 1L);
            return done ? head + 1 : NONE;
        }

        /** Answers the size of the block that there is then, or NONE when the change is one too many. */
        int giveBack(int head) {
            int first = head;
            int size = sizeAt(head);
            int next = head + 1 + size;
            if (freeAt(next) > 0) {
                size += 1 + freeAt(next);
            }
            int before = headBefore(head);
            if (freeAt(before) > 0) {
                first = before;
                size += 1 + freeAt(before);
            }
            return words.change(first, 2L * size) ? size : NONE;
        }

        private boolean split(int head, int n, int size) {
            int rest = head + 1 + n;
            long restHead = 2L * (size - n - 1);
            long takenHead = 2L * n + 1L;
            // Both are counted first, so that a refusal leaves neither.
            if (!words.haveRoomFor(words.cost(rest, restHead) + words.cost(head, takenHead))) {
                return false;
            }
            return words.change(rest, restHead) && words.change(head, takenHead);
        }

        private int firstFree(int n) {
            for (int head = HEAP_START; head < WORDS; head += 1 + sizeAt(head)) {
                if (freeAt(head) >= n) {
                    return head;
                }
            }
            return NONE;
        }

        private int headBefore(int head) {
            int before = NONE;
            for (int at = HEAP_START; at < head; at += 1 + sizeAt(at)) {
                before = at;
            }
            return before;
        }

        /** The size of a block that is not used; 0 for a used one, and where no block is. */
        private int freeAt(int head) {
            return isUsed(head) ? 0 : sizeAt(head);
        }
    }
}
