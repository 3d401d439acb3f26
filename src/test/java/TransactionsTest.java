import java.util.NoSuchElementException;

/** Promises 1 to 13: a new object, transactions and locks. */
public final class TransactionsTest {
    private static final Check CHECK = new Check("TransactionsTest");

    private TransactionsTest() { }

    public static void main(String[] args) {
        newObject();
        begin();
        beginWhenDown();
        lockRanges();
        lockKinds();
        lockWrong();
        lockEight();
        locksOf();
        waitsFor();
        ringOfTwo();
        ringBrokenByAnother();
        ringOfThree();
        ringTwice();
        onlyThoseInBothWays();
        wakingInOrder();
        put();
        putSplits();
        putNoRoom();
        putTwelvePages();
        putQuota();
        remove();
        removeFirstException();
        read();
        commit();
        abort();
        stateOf();
        promised();
        CHECK.end();
    }

    /** A store with so many transactions of user 0. */
    private static RiptideLedger with(int transactions) {
        RiptideLedger x = new RiptideLedger();
        for (int count = 0; count < transactions; count++) {
            x.begin(0);
        }
        return x;
    }

    /** A store whose transaction 0 has an exclusive lock on all keys. */
    private static RiptideLedger owned() {
        RiptideLedger x = with(1);
        x.lock(0, 0, 63, true);
        return x;
    }

    private static void newObject() {
        CHECK.promise(1, "new");
        RiptideLedger x = new RiptideLedger();
        CHECK.due('d', x.phase());
        CHECK.due(0, x.logLength());
        CHECK.due(0, x.durable());
        CHECK.due(1, x.pages());
        CHECK.due(0, x.lowOf(0));
        CHECK.due(0, x.sizeOf(0));
        CHECK.due(0, x.stampOf(0));
        CHECK.due(false, x.isDirty(0));
        CHECK.due(0, x.promised());
        CHECK.due(0, x.woken());
        CHECK.due(0, x.undone());
        CHECK.due(0, x.redone());
        CHECK.due(0, x.replicaAt());
        CHECK.due(0, x.pagesWritten());
        CHECK.due(true, x.isSound());
        CHECK.dueThrow(IndexOutOfBoundsException.class, () -> x.stateOf(0));
    }

    private static void begin() {
        CHECK.promise(2, "begin");
        RiptideLedger x = new RiptideLedger();
        CHECK.dueThrow(IllegalArgumentException.class, () -> x.begin(-1));
        CHECK.dueThrow(IllegalArgumentException.class, () -> x.begin(4));
        CHECK.dueThrow(IllegalArgumentException.class, () -> x.begin(Integer.MIN_VALUE));
        for (int number = 0; number < 60; number++) {
            CHECK.due(number, x.begin(number % 4));
        }
        CHECK.due('l', x.stateOf(59));
        CHECK.dueThrow(IllegalStateException.class, () -> x.begin(0));
        CHECK.dueThrow(IllegalArgumentException.class, () -> x.begin(4));
        x.commit(0);
        CHECK.dueThrow(IllegalStateException.class, () -> x.begin(0));
    }

    private static void beginWhenDown() {
        CHECK.promise(2, "begin");
        RiptideLedger x = with(1);
        x.commit(0);
        x.force();
        x.crash(-1);
        CHECK.dueThrow(IllegalStateException.class, () -> x.begin(0));
        CHECK.dueThrow(IllegalArgumentException.class, () -> x.begin(4));
        x.recover(1);
        CHECK.due(1, x.begin(3));
    }

    private static void lockRanges() {
        CHECK.promise(3, "lock");
        RiptideLedger x = with(9);
        CHECK.due('g', x.lock(0, 10, 20, true));
        CHECK.due('g', x.lock(1, 0, 9, true));
        CHECK.due('g', x.lock(1, 21, 63, true));
        CHECK.due('w', x.lock(2, 20, 20, true));
        CHECK.due('w', x.lock(3, 10, 10, false));
        CHECK.due('w', x.lock(4, 15, 16, true));
        CHECK.due('w', x.lock(5, 5, 25, true));
        CHECK.due(0, x.waitsFor(5));
        CHECK.due('w', x.lock(6, 63, 63, true));
        CHECK.due(1, x.waitsFor(6));
        CHECK.due('w', x.stateOf(6));
        CHECK.due(0, x.logLength());
        CHECK.due('g', x.lock(0, 11, 12, true));
        CHECK.due('g', x.lock(0, 15, 15, false));
        CHECK.due(3, x.locksOf(0));
    }

    private static void lockKinds() {
        CHECK.promise(3, "lock");
        RiptideLedger x = with(6);
        CHECK.due('g', x.lock(0, 0, 10, false));
        CHECK.due('g', x.lock(1, 5, 15, false));
        CHECK.due('w', x.lock(2, 8, 8, true));
        // one that waits has no lock yet, so it hinders none
        CHECK.due('g', x.lock(3, 8, 8, false));
        CHECK.due('g', x.lock(0, 0, 4, true));
        CHECK.due('w', x.lock(0, 10, 11, true));
        CHECK.due(1, x.waitsFor(0));
        x.commit(1);
        CHECK.due('l', x.stateOf(0));
        CHECK.due(3, x.locksOf(0));
        CHECK.due('w', x.stateOf(2));
    }

    private static void lockWrong() {
        CHECK.promise(3, "lock");
        RiptideLedger x = with(3);
        CHECK.dueThrow(IndexOutOfBoundsException.class, () -> x.lock(-1, 0, 0, true));
        CHECK.dueThrow(IndexOutOfBoundsException.class, () -> x.lock(3, 5, 4, true));
        CHECK.dueThrow(IllegalArgumentException.class, () -> x.lock(0, -1, 4, true));
        CHECK.dueThrow(IllegalArgumentException.class, () -> x.lock(0, 0, 64, true));
        CHECK.dueThrow(IllegalArgumentException.class, () -> x.lock(0, 64, 64, false));
        CHECK.dueThrow(IllegalArgumentException.class, () -> x.lock(0, 5, 4, false));
        CHECK.due('g', x.lock(0, 63, 63, true));
        CHECK.due('g', x.lock(0, 0, 0, true));
        CHECK.due('w', x.lock(1, 0, 0, true));
        CHECK.dueThrow(IllegalStateException.class, () -> x.lock(1, 5, 5, true));
        CHECK.dueThrow(IllegalArgumentException.class, () -> x.lock(1, 5, 4, true));
        x.commit(2);
        CHECK.dueThrow(IllegalStateException.class, () -> x.lock(2, 5, 5, true));
        x.force();
        x.crash(-1);
        CHECK.dueThrow(IllegalArgumentException.class, () -> x.lock(0, 5, 4, true));
        CHECK.dueThrow(IllegalStateException.class, () -> x.lock(0, 5, 5, true));
    }

    private static void lockEight() {
        CHECK.promise(3, "lock");
        RiptideLedger x = with(2);
        for (int count = 0; count < 7; count++) {
            CHECK.due('g', x.lock(0, count, count, true));
        }
        x.lock(1, 9, 9, true);
        CHECK.due('w', x.lock(0, 9, 9, true));
        x.commit(1);
        CHECK.due(8, x.locksOf(0));
        CHECK.dueThrow(IllegalStateException.class, () -> x.lock(0, 0, 0, false));
        CHECK.due('l', x.stateOf(0));
    }

    private static void locksOf() {
        CHECK.promise(4, "locksOf");
        RiptideLedger x = with(3);
        CHECK.dueThrow(IndexOutOfBoundsException.class, () -> x.locksOf(3));
        CHECK.dueThrow(IndexOutOfBoundsException.class, () -> x.locksOf(-1));
        CHECK.due(0, x.locksOf(0));
        x.lock(0, 0, 9, true);
        x.lock(0, 0, 9, true);
        CHECK.due(2, x.locksOf(0));
        x.lock(1, 20, 20, true);
        x.lock(1, 5, 5, true);
        CHECK.due(1, x.locksOf(1));
        x.commit(0);
        CHECK.due(0, x.locksOf(0));
        CHECK.due(2, x.locksOf(1));
        x.abort(1);
        CHECK.due(0, x.locksOf(1));
        x.lock(2, 0, 63, false);
        x.force();
        x.crash(-1);
        CHECK.due(0, x.locksOf(2));
    }

    private static void waitsFor() {
        CHECK.promise(5, "waitsFor");
        RiptideLedger x = with(5);
        CHECK.dueThrow(IndexOutOfBoundsException.class, () -> x.waitsFor(5));
        CHECK.dueThrow(IndexOutOfBoundsException.class, () -> x.waitsFor(-1));
        CHECK.dueThrow(NoSuchElementException.class, () -> x.waitsFor(0));
        x.lock(1, 0, 9, false);
        x.lock(2, 5, 14, false);
        x.lock(3, 6, 6, false);
        CHECK.due('w', x.lock(0, 6, 20, true));
        CHECK.due(1, x.waitsFor(0));
        x.commit(1);
        CHECK.due(2, x.waitsFor(0));
        CHECK.dueThrow(NoSuchElementException.class, () -> x.waitsFor(2));
        // one that gets its lock later hinders too, from that moment on
        x.lock(4, 20, 20, false);
        x.commit(2);
        CHECK.due(3, x.waitsFor(0));
        x.commit(3);
        CHECK.due(4, x.waitsFor(0));
        x.abort(4);
        CHECK.dueThrow(NoSuchElementException.class, () -> x.waitsFor(0));
        RiptideLedger y = with(2);
        y.lock(0, 0, 0, true);
        y.lock(1, 0, 0, true);
        y.crash(-1);
        CHECK.dueThrow(NoSuchElementException.class, () -> y.waitsFor(1));
    }

    private static void ringOfTwo() {
        CHECK.promise(3, "lock");
        RiptideLedger x = with(2);
        x.lock(0, 0, 4, true);
        x.lock(1, 5, 9, true);
        x.put(1, 5, 7);
        x.put(1, 6, 8);
        CHECK.due('w', x.lock(0, 5, 5, false));
        CHECK.due('d', x.lock(1, 0, 0, false));
        CHECK.due('d', x.stateOf(1));
        CHECK.due('l', x.stateOf(0));
        CHECK.due(1, x.woken());
        CHECK.due(5, x.logLength());
        CHECK.due('u', x.kindAt(3));
        CHECK.due('u', x.kindAt(4));
        CHECK.due('a', x.kindAt(5));
        CHECK.due(1, x.transactionAt(5));
        CHECK.due(2, x.undone());
        CHECK.due(0, x.sizeOf(0));
        CHECK.due(0, x.locksOf(1));
        CHECK.dueThrow(IllegalStateException.class, () -> x.abort(1));
    }

    private static void ringBrokenByAnother() {
        CHECK.promise(3, "lock");
        RiptideLedger x = with(2);
        x.lock(0, 0, 4, true);
        x.lock(1, 5, 9, true);
        CHECK.due('w', x.lock(1, 0, 0, false));
        CHECK.due('g', x.lock(0, 5, 5, false));
        CHECK.due('d', x.stateOf(1));
        CHECK.due('l', x.stateOf(0));
        CHECK.due(2, x.locksOf(0));
        CHECK.due(1, x.woken());
    }

    private static void ringOfThree() {
        CHECK.promise(3, "lock");
        RiptideLedger x = with(4);
        x.lock(0, 0, 0, true);
        x.lock(1, 1, 1, true);
        x.lock(3, 3, 3, true);
        CHECK.due('w', x.lock(3, 0, 0, true));
        CHECK.due('w', x.lock(1, 3, 3, true));
        // 2 stands by and waits for one in the ring, but nobody waits for it
        CHECK.due('w', x.lock(2, 1, 1, true));
        CHECK.due('w', x.lock(0, 1, 1, true));
        CHECK.due('d', x.stateOf(3));
        CHECK.due('l', x.stateOf(1));
        CHECK.due('w', x.stateOf(2));
        CHECK.due(1, x.waitsFor(0));
        CHECK.due(1, x.woken());
    }

    private static void ringTwice() {
        CHECK.promise(3, "lock");
        RiptideLedger x = with(3);
        x.lock(0, 0, 0, true);
        x.lock(1, 1, 1, false);
        x.lock(2, 1, 1, false);
        CHECK.due('w', x.lock(1, 0, 0, true));
        CHECK.due('w', x.lock(2, 0, 0, true));
        // 0 waits for 1 and 2, which both wait for 0: the greatest goes first, then the other one
        CHECK.due('g', x.lock(0, 1, 1, true));
        CHECK.due('d', x.stateOf(1));
        CHECK.due('d', x.stateOf(2));
        CHECK.due(2, x.transactionAt(1));
        CHECK.due(1, x.transactionAt(2));
        CHECK.due(1, x.woken());
    }

    private static void onlyThoseInBothWays() {
        CHECK.promise(3, "lock");
        RiptideLedger x = with(4);
        x.lock(0, 0, 0, true);
        x.lock(1, 1, 1, true);
        CHECK.due('w', x.lock(2, 1, 1, false));
        // 3 is waited for by one in the ring, but waits for none
        x.lock(3, 2, 2, true);
        CHECK.due('w', x.lock(1, 0, 0, true));
        CHECK.due('g', x.lock(0, 3, 3, true));
        CHECK.due('w', x.lock(0, 1, 2, true));
        CHECK.due('d', x.stateOf(1));
        CHECK.due('l', x.stateOf(2));
        CHECK.due('l', x.stateOf(3));
        CHECK.due(2, x.waitsFor(0));
    }

    private static void wakingInOrder() {
        CHECK.promise(13, "woken");
        RiptideLedger x = with(6);
        CHECK.due(0, x.woken());
        x.lock(0, 0, 9, true);
        CHECK.due('w', x.lock(4, 0, 0, true));
        CHECK.due('w', x.lock(1, 0, 5, false));
        CHECK.due('w', x.lock(2, 1, 1, false));
        CHECK.due('w', x.lock(3, 9, 9, true));
        x.commit(0);
        CHECK.due('l', x.stateOf(4));
        CHECK.due('w', x.stateOf(1));
        CHECK.due('l', x.stateOf(2));
        CHECK.due('l', x.stateOf(3));
        CHECK.due(3, x.woken());
        x.abort(4);
        CHECK.due('l', x.stateOf(1));
        CHECK.due(4, x.woken());
        x.lock(5, 9, 9, true);
        x.abort(5);
        x.commit(3);
        CHECK.due(4, x.woken());
        CHECK.due(0, x.locksOf(5));
        CHECK.due('a', x.stateOf(5));
    }

    private static void put() {
        CHECK.promise(6, "put");
        RiptideLedger x = with(3);
        CHECK.dueThrow(IndexOutOfBoundsException.class, () -> x.put(3, -1, -1));
        CHECK.dueThrow(IndexOutOfBoundsException.class, () -> x.put(-1, 0, 0));
        CHECK.dueThrow(IllegalArgumentException.class, () -> x.put(0, -1, 0));
        CHECK.dueThrow(IllegalArgumentException.class, () -> x.put(0, 64, 0));
        CHECK.dueThrow(IllegalArgumentException.class, () -> x.put(0, 0, -1));
        CHECK.dueThrow(IllegalArgumentException.class, () -> x.put(0, 0, 10000));
        CHECK.dueThrow(UnsupportedOperationException.class, () -> x.put(0, 5, 1));
        x.lock(0, 5, 9, false);
        CHECK.dueThrow(UnsupportedOperationException.class, () -> x.put(0, 5, 1));
        x.lock(0, 6, 8, true);
        CHECK.dueThrow(UnsupportedOperationException.class, () -> x.put(0, 5, 1));
        CHECK.dueThrow(UnsupportedOperationException.class, () -> x.put(0, 9, 1));
        CHECK.due(1, x.put(0, 8, 9999));
        CHECK.due(2, x.put(0, 6, 0));
        CHECK.due(3, x.put(0, 8, 1));
        CHECK.due('i', x.kindAt(1));
        CHECK.due(0, x.transactionAt(1));
        CHECK.due(0, x.pageAt(1));
        CHECK.due(2, x.versionAt(0, 0));
        CHECK.due(1, x.versionAt(0, 1));
        CHECK.due(3, x.versionAt(0, 2));
        CHECK.due(9999, x.valueAt(0, 1));
        CHECK.due(3, x.stampOf(0));
        CHECK.due(1, x.firstDirty(0));
        CHECK.dueThrow(NoSuchElementException.class, () -> x.value(8));
        x.lock(1, 8, 8, true);
        CHECK.dueThrow(IllegalStateException.class, () -> x.put(1, 8, 1));
        CHECK.dueThrow(IllegalArgumentException.class, () -> x.put(1, 8, 10000));
        x.commit(0);
        CHECK.dueThrow(IllegalStateException.class, () -> x.put(0, 8, 1));
        x.force();
        x.crash(-1);
        CHECK.dueThrow(IllegalArgumentException.class, () -> x.put(1, 64, 1));
        CHECK.dueThrow(IllegalStateException.class, () -> x.put(1, 8, 1));
    }

    private static void putSplits() {
        CHECK.promise(6, "put");
        RiptideLedger x = owned();
        for (int key = 30; key < 60; key += 5) {
            x.put(0, key, key);
        }
        CHECK.due(1, x.pages());
        // the boundary is 45; the version goes into the new page, and its number is behind that of the split
        CHECK.due(8, x.put(0, 63, 1));
        CHECK.due('s', x.kindAt(7));
        CHECK.due(0, x.pageAt(7));
        CHECK.due(1, x.pageAt(8));
        CHECK.due(45, x.lowOf(1));
        CHECK.due(0, x.lowOf(0));
        CHECK.due(3, x.sizeOf(0));
        CHECK.due(4, x.sizeOf(1));
        CHECK.due(7, x.stampOf(0));
        CHECK.due(8, x.stampOf(1));
        CHECK.due(7, x.firstDirty(1));
        CHECK.due(1, x.firstDirty(0));
        // four versions of the first key: the boundary is the next greater key
        RiptideLedger y = owned();
        for (int key : new int[] {3, 3, 3, 3, 7, 9}) {
            y.put(0, key, key);
        }
        CHECK.due(8, y.put(0, 3, 4));
        CHECK.due(7, y.lowOf(1));
        CHECK.due(5, y.sizeOf(0));
        CHECK.due(2, y.sizeOf(1));
        // the middle key has versions before it: all of them go
        RiptideLedger z = owned();
        for (int key : new int[] {3, 5, 5, 5, 5, 5}) {
            z.put(0, key, key);
        }
        CHECK.due(8, z.put(0, 4, 4));
        CHECK.due(5, z.lowOf(1));
        CHECK.due(2, z.sizeOf(0));
        CHECK.due(5, z.sizeOf(1));
        CHECK.due(2, z.versionAt(1, 0));
        CHECK.due(6, z.versionAt(1, 4));
    }

    private static void putNoRoom() {
        CHECK.promise(6, "put");
        RiptideLedger x = owned();
        for (int count = 0; count < 6; count++) {
            x.put(0, 20, count);
        }
        CHECK.dueThrow(UnsupportedOperationException.class, () -> x.put(0, 20, 9));
        CHECK.dueThrow(UnsupportedOperationException.class, () -> x.put(0, 21, 9));
        CHECK.dueThrow(UnsupportedOperationException.class, () -> x.put(0, 19, 9));
        CHECK.due(6, x.logLength());
        CHECK.due(1, x.pages());
        RiptideLedger y = owned();
        for (int key : new int[] {20, 20, 20, 20, 20, 21}) {
            y.put(0, key, 1);
        }
        CHECK.due(8, y.put(0, 21, 9));
        CHECK.due(21, y.lowOf(1));
        CHECK.due(9, y.put(0, 20, 9));
        CHECK.dueThrow(UnsupportedOperationException.class, () -> y.put(0, 20, 9));
        CHECK.due(10, y.put(0, 22, 9));
    }

    private static void putTwelvePages() {
        CHECK.promise(6, "put");
        RiptideLedger x = owned();
        int key = 0;
        while (x.pages() < 12) {
            x.put(0, key, key);
            key++;
        }
        int last = x.pageOf(63);
        CHECK.due(11, last);
        while (x.sizeOf(last) < 6) {
            x.put(0, key, key);
            key++;
        }
        CHECK.dueThrow(UnsupportedOperationException.class, () -> x.put(0, 63, 1));
        CHECK.due(12, x.pages());
        CHECK.due(x.logLength() + 1, x.put(0, 0, 1));
        CHECK.due(40, x.versionsOf(0));
        CHECK.due(true, x.isSound());
    }

    private static void putQuota() {
        CHECK.promise(6, "put");
        RiptideLedger x = new RiptideLedger();
        x.begin(2);
        x.begin(2);
        x.begin(1);
        x.lock(0, 0, 9, true);
        x.lock(1, 10, 19, true);
        x.lock(2, 20, 29, true);
        x.setQuota(2, 2);
        CHECK.due(1, x.put(0, 0, 1));
        CHECK.due(2, x.put(1, 10, 1));
        CHECK.dueThrow(UnsupportedOperationException.class, () -> x.put(0, 0, 1));
        CHECK.dueThrow(UnsupportedOperationException.class, () -> x.remove(0, 0));
        CHECK.due(3, x.put(2, 20, 1));
        x.setQuota(2, 1);
        CHECK.dueThrow(UnsupportedOperationException.class, () -> x.put(0, 0, 1));
        x.setQuota(2, 3);
        CHECK.due(4, x.put(0, 0, 1));
        x.abort(1);
        CHECK.due(7, x.put(0, 0, 2));
        x.setQuota(1, 0);
        CHECK.dueThrow(UnsupportedOperationException.class, () -> x.put(2, 20, 1));
    }

    private static void remove() {
        CHECK.promise(7, "remove");
        RiptideLedger x = owned();
        CHECK.dueThrow(NoSuchElementException.class, () -> x.remove(0, 5));
        CHECK.due(0, x.logLength());
        x.put(0, 5, 50);
        CHECK.due(2, x.remove(0, 5));
        CHECK.due('i', x.kindAt(2));
        CHECK.due(-1, x.valueAt(0, 1));
        CHECK.due(5, x.keyAt(0, 1));
        CHECK.dueThrow(NoSuchElementException.class, () -> x.remove(0, 5));
        x.put(0, 5, 51);
        x.commit(0);
        CHECK.due(51, x.value(5));
        x.begin(1);
        x.lock(1, 5, 5, true);
        CHECK.due(5, x.remove(1, 5));
        CHECK.due(51, x.value(5));
        CHECK.dueThrow(NoSuchElementException.class, () -> x.read(1, 5));
        x.commit(1);
        CHECK.dueThrow(NoSuchElementException.class, () -> x.value(5));
        CHECK.due(1, x.versionsOf(1));
        // a remove splits as a put does
        RiptideLedger y = owned();
        for (int key = 0; key < 6; key++) {
            y.put(0, key, key);
        }
        CHECK.due(8, y.remove(0, 1));
        CHECK.due(2, y.pages());
    }

    private static void removeFirstException() {
        CHECK.promise(7, "remove");
        RiptideLedger x = with(2);
        CHECK.dueThrow(IndexOutOfBoundsException.class, () -> x.remove(2, 64));
        CHECK.dueThrow(IllegalArgumentException.class, () -> x.remove(0, 64));
        CHECK.dueThrow(IllegalArgumentException.class, () -> x.remove(0, -1));
        CHECK.dueThrow(UnsupportedOperationException.class, () -> x.remove(0, 5));
        x.lock(0, 5, 6, false);
        CHECK.dueThrow(UnsupportedOperationException.class, () -> x.remove(0, 5));
        x.lock(0, 5, 6, true);
        x.setQuota(0, 0);
        CHECK.dueThrow(UnsupportedOperationException.class, () -> x.remove(0, 5));
        x.setQuota(0, 99);
        CHECK.dueThrow(NoSuchElementException.class, () -> x.remove(0, 5));
        for (int count = 0; count < 6; count++) {
            x.put(0, 5, 1);
        }
        CHECK.dueThrow(UnsupportedOperationException.class, () -> x.remove(0, 6));
        x.lock(1, 5, 5, true);
        CHECK.dueThrow(IllegalStateException.class, () -> x.remove(1, 5));
        CHECK.dueThrow(IllegalArgumentException.class, () -> x.remove(1, 64));
        x.force();
        x.crash(-1);
        CHECK.dueThrow(IllegalStateException.class, () -> x.remove(0, 5));
    }

    private static void read() {
        CHECK.promise(8, "read");
        RiptideLedger x = with(4);
        CHECK.dueThrow(IndexOutOfBoundsException.class, () -> x.read(4, 64));
        CHECK.dueThrow(IndexOutOfBoundsException.class, () -> x.read(-1, 0));
        CHECK.dueThrow(IllegalArgumentException.class, () -> x.read(0, 64));
        CHECK.dueThrow(IllegalArgumentException.class, () -> x.read(0, -1));
        CHECK.dueThrow(UnsupportedOperationException.class, () -> x.read(0, 5));
        x.lock(0, 5, 6, true);
        CHECK.dueThrow(NoSuchElementException.class, () -> x.read(0, 5));
        CHECK.dueThrow(UnsupportedOperationException.class, () -> x.read(0, 4));
        CHECK.dueThrow(UnsupportedOperationException.class, () -> x.read(0, 7));
        x.put(0, 5, 50);
        x.put(0, 5, 51);
        CHECK.due(51, x.read(0, 5));
        CHECK.dueThrow(NoSuchElementException.class, () -> x.read(0, 6));
        x.commit(0);
        x.lock(1, 5, 5, false);
        CHECK.due(51, x.read(1, 5));
        x.lock(2, 5, 5, true);
        CHECK.dueThrow(IllegalStateException.class, () -> x.read(2, 5));
        x.commit(1);
        CHECK.due(51, x.read(2, 5));
        x.put(2, 5, 52);
        CHECK.due(52, x.read(2, 5));
        x.remove(2, 5);
        CHECK.dueThrow(NoSuchElementException.class, () -> x.read(2, 5));
        x.abort(2);
        x.lock(3, 0, 63, false);
        CHECK.due(51, x.read(3, 5));
        CHECK.dueThrow(IllegalStateException.class, () -> x.read(2, 5));
        x.force();
        x.crash(-1);
        CHECK.dueThrow(IllegalStateException.class, () -> x.read(3, 5));
    }

    private static void commit() {
        CHECK.promise(9, "commit");
        RiptideLedger x = with(4);
        CHECK.dueThrow(IndexOutOfBoundsException.class, () -> x.commit(4));
        CHECK.dueThrow(IndexOutOfBoundsException.class, () -> x.commit(-1));
        x.lock(0, 0, 9, true);
        x.put(0, 3, 30);
        x.lock(1, 3, 3, true);
        CHECK.dueThrow(IllegalStateException.class, () -> x.commit(1));
        CHECK.due(2, x.commit(0));
        CHECK.due('c', x.kindAt(2));
        CHECK.due(0, x.transactionAt(2));
        CHECK.due(0, x.locksOf(0));
        CHECK.due('l', x.stateOf(1));
        CHECK.due(30, x.value(3));
        CHECK.due(0, x.durable());
        CHECK.dueThrow(IllegalStateException.class, () -> x.commit(0));
        CHECK.due(3, x.commit(2));
        x.abort(1);
        CHECK.dueThrow(IllegalStateException.class, () -> x.commit(1));
        x.force();
        x.crash(-1);
        CHECK.dueThrow(IllegalStateException.class, () -> x.commit(3));
        CHECK.dueThrow(IndexOutOfBoundsException.class, () -> x.commit(4));
    }

    private static void abort() {
        CHECK.promise(10, "abort");
        RiptideLedger x = with(5);
        CHECK.dueThrow(IndexOutOfBoundsException.class, () -> x.abort(5));
        CHECK.dueThrow(IndexOutOfBoundsException.class, () -> x.abort(-1));
        x.lock(0, 0, 9, true);
        x.lock(1, 10, 19, true);
        x.put(0, 9, 1);
        x.put(1, 10, 2);
        x.put(0, 3, 3);
        x.put(0, 9, 4);
        CHECK.due(3, x.abort(0));
        CHECK.due(8, x.logLength());
        CHECK.due('u', x.kindAt(5));
        CHECK.due('u', x.kindAt(7));
        CHECK.due('a', x.kindAt(8));
        CHECK.due(0, x.transactionAt(5));
        CHECK.due(0, x.pageAt(5));
        CHECK.due(7, x.stampOf(0));
        CHECK.due(1, x.sizeOf(0));
        CHECK.due(2, x.versionAt(0, 0));
        CHECK.due(3, x.undone());
        CHECK.dueThrow(IllegalStateException.class, () -> x.abort(0));
        x.lock(2, 10, 10, true);
        CHECK.due('w', x.stateOf(2));
        CHECK.due(0, x.abort(2));
        CHECK.due(9, x.logLength());
        CHECK.due('a', x.stateOf(2));
        x.commit(1);
        CHECK.due('a', x.stateOf(2));
        CHECK.dueThrow(IllegalStateException.class, () -> x.abort(1));
        CHECK.due(0, x.woken());
        x.force();
        x.crash(-1);
        CHECK.dueThrow(IllegalStateException.class, () -> x.abort(3));
        CHECK.dueThrow(IndexOutOfBoundsException.class, () -> x.abort(5));
        abortOverPages();
    }

    private static void abortOverPages() {
        RiptideLedger x = owned();
        for (int key = 0; key < 8; key++) {
            x.put(0, key * 5, key);
        }
        CHECK.due(2, x.pages());
        CHECK.due(8, x.abort(0));
        // the greatest number first: the last two were put into page 1, then back through both
        CHECK.due(1, x.pageAt(10));
        CHECK.due(1, x.pageAt(14));
        CHECK.due(0, x.pageAt(15));
        CHECK.due(0, x.pageAt(17));
        CHECK.due('a', x.kindAt(18));
        CHECK.due(2, x.pages());
        CHECK.due(0, x.sizeOf(1));
        CHECK.due(15, x.lowOf(1));
    }

    private static void stateOf() {
        CHECK.promise(11, "stateOf");
        RiptideLedger x = with(8);
        CHECK.dueThrow(IndexOutOfBoundsException.class, () -> x.stateOf(8));
        CHECK.dueThrow(IndexOutOfBoundsException.class, () -> x.stateOf(-1));
        CHECK.due('l', x.stateOf(0));
        x.lock(0, 0, 0, true);
        x.lock(1, 0, 0, true);
        CHECK.due('w', x.stateOf(1));
        x.commit(2);
        CHECK.due('c', x.stateOf(2));
        x.abort(3);
        CHECK.due('a', x.stateOf(3));
        x.force();
        CHECK.due('p', x.stateOf(2));
        CHECK.due('a', x.stateOf(3));
        x.commit(4);
        x.abort(5);
        x.lock(6, 1, 1, true);
        x.lock(6, 0, 0, true);
        x.lock(0, 1, 1, true);
        CHECK.due('d', x.stateOf(6));
        x.crash(-1);
        CHECK.due('x', x.stateOf(0));
        CHECK.due('x', x.stateOf(1));
        CHECK.due('p', x.stateOf(2));
        CHECK.due('a', x.stateOf(3));
        CHECK.due('x', x.stateOf(4));
        CHECK.due('x', x.stateOf(5));
        CHECK.due('x', x.stateOf(6));
        CHECK.due('x', x.stateOf(7));
        RiptideLedger y = with(2);
        y.lock(0, 0, 0, true);
        y.lock(1, 1, 1, true);
        y.lock(0, 1, 1, true);
        y.lock(1, 0, 0, true);
        y.force();
        y.crash(-1);
        CHECK.due('d', y.stateOf(1));
        CHECK.due('x', y.stateOf(0));
    }

    private static void promised() {
        CHECK.promise(12, "promised");
        RiptideLedger x = with(5);
        x.commit(0);
        x.commit(3);
        x.abort(1);
        CHECK.due(0, x.promised());
        x.force();
        CHECK.due(2, x.promised());
        x.commit(2);
        CHECK.due(2, x.promised());
        x.crash(-1);
        CHECK.due(2, x.promised());
        CHECK.due('p', x.stateOf(3));
        x.recover(99);
        x.begin(0);
        x.commit(5);
        x.force();
        CHECK.due(3, x.promised());
    }
}
