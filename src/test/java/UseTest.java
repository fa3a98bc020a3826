/** The example of README.md, with the answers that stand beside its calls. */
public final class UseTest {
    public static void main(String[] args) {
        RedoHeap heap = new RedoHeap();
        Check.due("open()", heap.open(), 0);
        Check.due("begin()", heap.begin(), 1);
        int address = heap.take(4);
        Check.due("take(4)", address, 177);
        Check.due("set(address, 0, 42)", heap.set(address, 0, 42L), true);
        Check.due("setRoot(address)", heap.setRoot(address), true);
        Check.due("commit(true)", heap.commit(true), 1);
        secondTransaction(heap, address);
        Check.due("open() again", heap.open(), 1);
        Check.due("get(root(), 0)", heap.get(heap.root(), 0), 42);
        Check.done("UseTest");
    }

    private static void secondTransaction(RedoHeap heap, int address) {
        Check.due("begin() again", heap.begin(), 2);
        Check.due("set(address, 0, 43)", heap.set(address, 0, 43L), true);
        Check.due("power(3, 2)", heap.power(3, 2), 0);
        Check.due("commit(true) again", heap.commit(true), RedoHeap.OFF);
    }
}
