import java.util.NoSuchElementException;

/** Promises 14 to 21: quotas, snapshots, cleaning, and the values that are committed. */
public final class SnapshotsTest {
    private static final Check CHECK = new Check("SnapshotsTest");

    private SnapshotsTest() { }

    public static void main(String[] args) {
        setQuota();
        versionsOf();
        snapshot();
        readAt();
        drop();
        clean();
        cleanKeepsWhatSnapshotsSee();
        cleanRemovals();
        cleanOnlyCommitted();
        cleanPages();
        value();
        valueByReplay();
        CHECK.end();
    }

    /** Begins a transaction of user 0 and locks a range for it. */
    private static int writer(RiptideLedger x, int low, int high) {
        int transaction = x.begin(0);
        x.lock(transaction, low, high, true);
        return transaction;
    }

    /** Puts values for one key, each in a transaction of its own that commits. */
    private static void commitAll(RiptideLedger x, int key, int... values) {
        for (int value : values) {
            int transaction = writer(x, key, key);
            if (value < 0) {
                x.remove(transaction, key);
            } else {
                x.put(transaction, key, value);
            }
            x.commit(transaction);
        }
    }

    private static void setQuota() {
        CHECK.promise(14, "setQuota");
        RiptideLedger x = new RiptideLedger();
        CHECK.dueThrow(IllegalArgumentException.class, () -> x.setQuota(-1, 5));
        CHECK.dueThrow(IllegalArgumentException.class, () -> x.setQuota(4, 5));
        CHECK.dueThrow(IllegalArgumentException.class, () -> x.setQuota(0, -1));
        CHECK.dueThrow(IllegalArgumentException.class, () -> x.setQuota(0, 100));
        CHECK.due(99, x.setQuota(0, 0));
        CHECK.due(0, x.setQuota(0, 99));
        CHECK.due(99, x.setQuota(3, 7));
        CHECK.due(7, x.setQuota(3, 8));
        CHECK.due(99, x.setQuota(2, 1));
        commitAll(x, 1, 1);
        x.force();
        x.crash(-1);
        CHECK.due(8, x.setQuota(3, 9));
        CHECK.due(9, x.setQuota(3, 9));
    }

    private static void versionsOf() {
        CHECK.promise(15, "versionsOf");
        RiptideLedger x = new RiptideLedger();
        CHECK.dueThrow(IllegalArgumentException.class, () -> x.versionsOf(-1));
        CHECK.dueThrow(IllegalArgumentException.class, () -> x.versionsOf(4));
        int first = x.begin(3);
        int other = x.begin(1);
        int second = x.begin(3);
        x.lock(first, 0, 9, true);
        x.lock(other, 10, 19, true);
        x.lock(second, 20, 63, true);
        x.put(first, 1, 1);
        x.remove(first, 1);
        x.put(other, 10, 1);
        for (int key = 20; key < 28; key++) {
            x.put(second, key, 1);
        }
        CHECK.due(0, x.versionsOf(0));
        CHECK.due(1, x.versionsOf(1));
        CHECK.due(10, x.versionsOf(3));
        x.commit(first);
        CHECK.due(10, x.versionsOf(3));
        CHECK.due(2, x.clean());
        CHECK.due(8, x.versionsOf(3));
        x.abort(second);
        CHECK.due(0, x.versionsOf(3));
        x.force();
        CHECK.due(1, x.versionsOf(1));
        x.crash(-1);
        CHECK.due(0, x.versionsOf(1));
        while (x.phase() != 'u') {
            x.recover(1);
        }
        CHECK.due(1, x.versionsOf(1));
        x.recover(1);
        CHECK.due(0, x.versionsOf(1));
    }

    private static void snapshot() {
        CHECK.promise(16, "snapshot");
        RiptideLedger x = new RiptideLedger();
        for (int number = 0; number < 6; number++) {
            CHECK.due(number, x.snapshot());
        }
        CHECK.dueThrow(IllegalStateException.class, x::snapshot);
        x.drop(2);
        CHECK.due(6, x.snapshot());
        CHECK.dueThrow(IllegalStateException.class, x::snapshot);
        CHECK.due(0, x.logLength());
        commitAll(x, 1, 1);
        x.force();
        x.crash(-1);
        CHECK.dueThrow(IllegalStateException.class, x::snapshot);
        x.recover(99);
        CHECK.due(7, x.snapshot());
        CHECK.due(1, x.readAt(7, 1));
    }

    private static void readAt() {
        CHECK.promise(17, "readAt");
        RiptideLedger x = new RiptideLedger();
        CHECK.dueThrow(IndexOutOfBoundsException.class, () -> x.readAt(0, 64));
        x.snapshot();
        CHECK.dueThrow(IndexOutOfBoundsException.class, () -> x.readAt(-1, 0));
        CHECK.dueThrow(IndexOutOfBoundsException.class, () -> x.readAt(1, 64));
        CHECK.dueThrow(IllegalArgumentException.class, () -> x.readAt(0, 64));
        CHECK.dueThrow(IllegalArgumentException.class, () -> x.readAt(0, -1));
        CHECK.dueThrow(NoSuchElementException.class, () -> x.readAt(0, 5));
        commitAll(x, 5, 50, 51);
        CHECK.dueThrow(NoSuchElementException.class, () -> x.readAt(0, 5));
        int open = writer(x, 5, 5);
        x.put(open, 5, 52);
        x.snapshot();
        x.put(open, 5, 53);
        CHECK.due(51, x.readAt(1, 5));
        x.commit(open);
        CHECK.due(51, x.readAt(1, 5));
        x.snapshot();
        CHECK.due(53, x.readAt(2, 5));
        commitAll(x, 5, -1);
        CHECK.due(53, x.readAt(2, 5));
        x.snapshot();
        CHECK.dueThrow(NoSuchElementException.class, () -> x.readAt(3, 5));
        x.drop(1);
        CHECK.dueThrow(IndexOutOfBoundsException.class, () -> x.readAt(1, 5));
        CHECK.due(53, x.readAt(2, 5));
        x.force();
        x.crash(-1);
        CHECK.dueThrow(IndexOutOfBoundsException.class, () -> x.readAt(2, 5));
        x.recover(99);
        CHECK.dueThrow(IndexOutOfBoundsException.class, () -> x.readAt(2, 5));
    }

    private static void drop() {
        CHECK.promise(18, "drop");
        RiptideLedger x = new RiptideLedger();
        CHECK.dueThrow(IndexOutOfBoundsException.class, () -> x.drop(0));
        CHECK.dueThrow(IndexOutOfBoundsException.class, () -> x.drop(-1));
        x.snapshot();
        commitAll(x, 1, 10);
        x.snapshot();
        commitAll(x, 1, 11);
        x.snapshot();
        CHECK.due(2, x.drop(1));
        CHECK.dueThrow(IndexOutOfBoundsException.class, () -> x.drop(1));
        CHECK.dueThrow(IndexOutOfBoundsException.class, () -> x.drop(3));
        CHECK.due(11, x.readAt(2, 1));
        CHECK.due(1, x.drop(0));
        CHECK.due(0, x.drop(2));
        x.snapshot();
        x.force();
        x.crash(-1);
        CHECK.dueThrow(IndexOutOfBoundsException.class, () -> x.drop(3));
    }

    private static void clean() {
        CHECK.promise(19, "clean");
        RiptideLedger x = new RiptideLedger();
        CHECK.due(0, x.clean());
        commitAll(x, 5, 50, 51, 52);
        commitAll(x, 4, 40);
        CHECK.due(2, x.clean());
        CHECK.due(10, x.logLength());
        CHECK.due('g', x.kindAt(9));
        CHECK.due('g', x.kindAt(10));
        CHECK.due(0, x.pageAt(9));
        CHECK.dueThrow(NoSuchElementException.class, () -> x.transactionAt(9));
        CHECK.due(10, x.stampOf(0));
        CHECK.due(2, x.sizeOf(0));
        CHECK.due(52, x.value(5));
        CHECK.due(52, x.valueByReplay(5));
        CHECK.due(40, x.value(4));
        CHECK.due(0, x.clean());
        CHECK.due(10, x.logLength());
        CHECK.due(0, x.undone());
        CHECK.due(true, x.isSound());
        x.force();
        x.crash(-1);
        CHECK.dueThrow(IllegalStateException.class, x::clean);
        x.recover(99);
        CHECK.due(2, x.sizeOf(0));
        CHECK.due(52, x.value(5));
    }

    private static void cleanKeepsWhatSnapshotsSee() {
        CHECK.promise(19, "clean");
        RiptideLedger x = new RiptideLedger();
        x.snapshot();
        commitAll(x, 5, 50);
        x.snapshot();
        commitAll(x, 5, 51);
        commitAll(x, 5, 52);
        x.snapshot();
        commitAll(x, 5, 53);
        CHECK.due(1, x.clean());
        CHECK.due(50, x.readAt(1, 5));
        CHECK.due(52, x.readAt(2, 5));
        CHECK.due(53, x.value(5));
        x.drop(1);
        CHECK.due(1, x.clean());
        CHECK.due(52, x.readAt(2, 5));
        x.drop(0);
        CHECK.due(0, x.clean());
        x.drop(2);
        CHECK.due(1, x.clean());
        CHECK.due(1, x.sizeOf(0));
    }

    private static void cleanRemovals() {
        CHECK.promise(19, "clean");
        RiptideLedger x = new RiptideLedger();
        commitAll(x, 5, 50, -1);
        // the value is not needed any more; then nothing lies below the removal, and it goes too
        CHECK.due(2, x.clean());
        CHECK.due(0, x.sizeOf(0));
        RiptideLedger y = new RiptideLedger();
        commitAll(y, 5, 50);
        y.snapshot();
        commitAll(y, 5, -1);
        y.snapshot();
        CHECK.due(0, y.clean());
        commitAll(y, 5, 51);
        // the removal is needed by the second snapshot, and a lower version is there
        CHECK.due(0, y.clean());
        y.drop(0);
        CHECK.due(2, y.clean());
        CHECK.dueThrow(NoSuchElementException.class, () -> y.readAt(1, 5));
        CHECK.due(51, y.value(5));
        CHECK.due(1, y.sizeOf(0));
        CHECK.due(true, y.isSound());
    }

    private static void cleanOnlyCommitted() {
        CHECK.promise(19, "clean");
        RiptideLedger x = new RiptideLedger();
        int open = writer(x, 5, 5);
        x.put(open, 5, 50);
        x.put(open, 5, 51);
        x.remove(open, 5);
        CHECK.due(0, x.clean());
        CHECK.due(3, x.sizeOf(0));
        x.commit(open);
        CHECK.due(3, x.clean());
        RiptideLedger y = new RiptideLedger();
        commitAll(y, 5, 50);
        int late = writer(y, 5, 5);
        y.put(late, 5, 51);
        CHECK.due(0, y.clean());
        y.abort(late);
        CHECK.due(0, y.clean());
        CHECK.due(50, y.value(5));
    }

    private static void cleanPages() {
        CHECK.promise(19, "clean");
        RiptideLedger x = new RiptideLedger();
        int writer = writer(x, 0, 63);
        for (int key : new int[] {10, 20, 30, 40, 50, 60, 60, 60, 10}) {
            x.put(writer, key, key);
        }
        x.commit(writer);
        int end = x.logLength();
        CHECK.due(3, x.clean());
        CHECK.due(0, x.pageAt(end + 1));
        CHECK.due(1, x.pageAt(end + 2));
        CHECK.due(1, x.pageAt(end + 3));
        CHECK.due(end + 1, x.stampOf(0));
        CHECK.due(2, x.pages());
        CHECK.due(60, x.value(60));
    }

    private static void value() {
        CHECK.promise(20, "value");
        RiptideLedger x = new RiptideLedger();
        CHECK.dueThrow(IllegalArgumentException.class, () -> x.value(-1));
        CHECK.dueThrow(IllegalArgumentException.class, () -> x.value(64));
        CHECK.dueThrow(NoSuchElementException.class, () -> x.value(63));
        int open = writer(x, 0, 63);
        x.put(open, 63, 9999);
        CHECK.dueThrow(NoSuchElementException.class, () -> x.value(63));
        x.put(open, 63, 0);
        x.put(open, 0, 7);
        x.commit(open);
        CHECK.due(0, x.value(63));
        CHECK.due(7, x.value(0));
        commitAll(x, 0, -1);
        CHECK.dueThrow(NoSuchElementException.class, () -> x.value(0));
        x.force();
        x.crash(-1);
        CHECK.dueThrow(IllegalStateException.class, () -> x.value(63));
        CHECK.dueThrow(IllegalArgumentException.class, () -> x.value(64));
        x.recover(99);
        CHECK.due(0, x.value(63));
    }

    private static void valueByReplay() {
        CHECK.promise(21, "valueByReplay");
        RiptideLedger x = new RiptideLedger();
        CHECK.dueThrow(IllegalArgumentException.class, () -> x.valueByReplay(-1));
        CHECK.dueThrow(IllegalArgumentException.class, () -> x.valueByReplay(64));
        CHECK.dueThrow(NoSuchElementException.class, () -> x.valueByReplay(63));
        commitAll(x, 5, 50, 51);
        commitAll(x, 63, 1, -1);
        int open = writer(x, 5, 5);
        x.put(open, 5, 52);
        CHECK.due(51, x.valueByReplay(5));
        CHECK.dueThrow(NoSuchElementException.class, () -> x.valueByReplay(63));
        x.abort(open);
        x.clean();
        CHECK.due(51, x.valueByReplay(5));
        CHECK.dueThrow(NoSuchElementException.class, () -> x.valueByReplay(63));
        x.force();
        commitAll(x, 5, 53);
        CHECK.due(53, x.valueByReplay(5));
        x.crash(-1);
        CHECK.dueThrow(IllegalStateException.class, () -> x.valueByReplay(5));
        CHECK.dueThrow(IllegalArgumentException.class, () -> x.valueByReplay(64));
        x.recover(99);
        CHECK.due(51, x.valueByReplay(5));
    }
}
