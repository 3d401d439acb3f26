import java.util.NoSuchElementException;

/** Promises 40 to 48: crashes, recovery and the replica. */
public final class RecoveryTest {
    private static final Check CHECK = new Check("RecoveryTest");

    private RecoveryTest() { }

    public static void main(String[] args) {
        crash();
        crashWrong();
        crashOnNothing();
        tornFirstPage();
        tornNewPage();
        tornUntilWritten();
        tornWrittenHalfRemade();
        recover();
        recoverKeepsWhatIsPromised();
        recoverAgain();
        recoverUndoHalfDone();
        recoverManyLosers();
        recoverLateMark();
        recoverCleaned();
        phases();
        redone();
        redoneSplit();
        undone();
        follow();
        replicaAt();
        pin();
        readPinned();
        CHECK.end();
    }

    /** A store whose transaction 0, of user 0, has an exclusive lock on all keys. */
    private static RiptideLedger owned() {
        RiptideLedger x = new RiptideLedger();
        own(x, 0);
        return x;
    }

    /** Begins a transaction and gives it an exclusive lock on all keys. */
    private static int own(RiptideLedger x, int user) {
        int transaction = x.begin(user);
        x.lock(transaction, 0, 63, true);
        return transaction;
    }

    private static void recoverAll(RiptideLedger x) {
        for (int round = 0; round < 50 && x.phase() != 'd'; round++) {
            x.recover(99);
        }
    }

    private static void crash() {
        CHECK.promise(40, "crash");
        RiptideLedger x = owned();
        x.put(0, 1, 10);
        x.commit(0);
        x.force();
        x.writePage(0);
        own(x, 1);
        x.put(1, 1, 11);
        x.put(1, 2, 12);
        x.snapshot();
        x.setQuota(1, 7);
        CHECK.due(2, x.crash(-1));
        CHECK.due(2, x.logLength());
        CHECK.due(2, x.durable());
        CHECK.due(1, x.sizeOf(0));
        CHECK.due(1, x.stampOf(0));
        CHECK.due(false, x.isDirty(0));
        CHECK.due('p', x.stateOf(0));
        CHECK.due('x', x.stateOf(1));
        CHECK.due(0, x.locksOf(1));
        CHECK.dueThrow(IndexOutOfBoundsException.class, () -> x.drop(0));
        CHECK.due('a', x.phase());
        CHECK.due(0, x.crash(-1));
        recoverAll(x);
        CHECK.due(10, x.value(1));
        CHECK.due(7, x.setQuota(1, 7));
        // numbers of records that were lost come again
        own(x, 2);
        CHECK.due(3, x.put(2, 1, 20));
        CHECK.due(2, x.transactionAt(3));
        CHECK.due(1, x.crash(-1));
        recoverAll(x);
        CHECK.due(10, x.value(1));
    }

    private static void crashWrong() {
        CHECK.promise(40, "crash");
        RiptideLedger x = owned();
        CHECK.dueThrow(IllegalArgumentException.class, () -> x.crash(-2));
        CHECK.dueThrow(IllegalArgumentException.class, () -> x.crash(1));
        CHECK.dueThrow(IllegalArgumentException.class, () -> x.crash(12));
        CHECK.dueThrow(IllegalArgumentException.class, () -> x.crash(Integer.MAX_VALUE));
        CHECK.dueThrow(UnsupportedOperationException.class, () -> x.crash(0));
        x.put(0, 1, 1);
        CHECK.dueThrow(UnsupportedOperationException.class, () -> x.crash(0));
        x.force();
        x.put(0, 1, 1);
        CHECK.dueThrow(UnsupportedOperationException.class, () -> x.crash(0));
        x.force();
        x.writePage(0);
        CHECK.dueThrow(UnsupportedOperationException.class, () -> x.crash(0));
        CHECK.due('d', x.phase());
        CHECK.due('l', x.stateOf(0));
        x.put(0, 2, 1);
        x.force();
        CHECK.due(0, x.crash(0));
        CHECK.dueThrow(UnsupportedOperationException.class, () -> x.crash(0));
    }

    private static void crashOnNothing() {
        CHECK.promise(40, "crash");
        RiptideLedger x = new RiptideLedger();
        x.begin(0);
        CHECK.due(0, x.crash(-1));
        CHECK.due('d', x.phase());
        CHECK.due('x', x.stateOf(0));
        CHECK.dueThrow(IllegalStateException.class, () -> x.recover(1));
        own(x, 0);
        x.put(1, 5, 5);
        CHECK.due(1, x.crash(-1));
        CHECK.due('d', x.phase());
        CHECK.due(0, x.sizeOf(0));
        CHECK.due(2, x.begin(0));
    }

    private static void tornFirstPage() {
        CHECK.promise(40, "crash");
        RiptideLedger x = owned();
        x.put(0, 1, 10);
        x.commit(0);
        x.force();
        x.writePage(0);
        x.mark();
        own(x, 0);
        x.put(1, 1, 11);
        x.commit(1);
        x.force();
        CHECK.due(0, x.crash(0));
        // as if it was never written: there, and empty
        CHECK.due(1, x.pages());
        CHECK.due(0, x.sizeOf(0));
        CHECK.due(0, x.stampOf(0));
        // three steps from the mark, then all five records from the first one
        CHECK.due(3, x.recover(3));
        CHECK.due('r', x.phase());
        CHECK.due(5, x.recover(99));
        CHECK.due(2, x.redone());
        CHECK.due(11, x.value(1));
        CHECK.due(1, x.firstDirty(0));
        CHECK.due(true, x.isSound());
    }

    private static void tornNewPage() {
        CHECK.promise(40, "crash");
        RiptideLedger x = owned();
        for (int key = 0; key < 7; key++) {
            x.put(0, key, key);
        }
        x.commit(0);
        x.force();
        x.writePage(0);
        x.writePage(1);
        x.mark();
        own(x, 0);
        x.put(1, 60, 6);
        x.commit(1);
        x.force();
        CHECK.due(0, x.crash(1));
        CHECK.due(1, x.pages());
        CHECK.due(3, x.sizeOf(0));
        CHECK.dueThrow(IndexOutOfBoundsException.class, () -> x.sizeOf(1));
        CHECK.dueThrow(IllegalArgumentException.class, () -> x.crash(1));
        CHECK.due(3 + 12, x.recover(99));
        // the split and two versions, on the new page alone
        CHECK.due(3, x.redone());
        CHECK.due(3, x.lowOf(1));
        CHECK.due(5, x.sizeOf(1));
        CHECK.due(7, x.firstDirty(1));
        CHECK.due(false, x.isDirty(0));
        CHECK.due(6, x.value(60));
        CHECK.due(true, x.isSound());
    }

    private static void tornUntilWritten() {
        CHECK.promise(40, "crash");
        RiptideLedger x = owned();
        x.put(0, 1, 10);
        x.commit(0);
        x.force();
        x.writePage(0);
        own(x, 0);
        x.put(1, 1, 11);
        x.commit(1);
        x.mark();
        x.force();
        x.crash(0);
        CHECK.due(1 + 5, x.recover(99));
        // it was not written since: a crash that tears nothing finds it torn still
        x.crash(-1);
        CHECK.due(0, x.sizeOf(0));
        CHECK.due(1 + 5, x.recover(99));
        CHECK.due(4, x.redone());
        CHECK.due(3, x.writePage(0));
        x.crash(-1);
        CHECK.due(2, x.sizeOf(0));
        CHECK.due(1, x.recover(1));
        CHECK.due('r', x.phase());
        // the mark tells that it is dirty since 3: two steps, none of them a change
        CHECK.due(3, x.recover(99));
        CHECK.due(4, x.redone());
        CHECK.due(11, x.value(1));
    }

    private static void tornWrittenHalfRemade() {
        CHECK.promise(40, "crash");
        RiptideLedger x = owned();
        x.put(0, 1, 10);
        x.put(0, 2, 20);
        x.commit(0);
        x.force();
        x.writePage(0);
        x.mark();
        own(x, 0);
        x.put(1, 3, 30);
        x.commit(1);
        x.force();
        x.crash(0);
        x.recover(3);
        CHECK.due('r', x.phase());
        x.recover(1);
        // it is not torn any more when it is written, though it lacks the version 2
        CHECK.due(1, x.writePage(0));
        x.crash(-1);
        CHECK.due(3 + 2, x.recover(99));
        CHECK.due(10, x.value(1));
        CHECK.due(30, x.value(3));
        CHECK.dueThrow(NoSuchElementException.class, () -> x.value(2));
        CHECK.due(20, x.valueByReplay(2));
        CHECK.promise(52, "isSound");
        CHECK.due(false, x.isSound());
    }

    private static void recover() {
        CHECK.promise(41, "recover");
        RiptideLedger x = owned();
        CHECK.dueThrow(IllegalArgumentException.class, () -> x.recover(0));
        CHECK.dueThrow(IllegalArgumentException.class, () -> x.recover(-1));
        CHECK.dueThrow(IllegalArgumentException.class, () -> x.recover(100));
        CHECK.dueThrow(IllegalStateException.class, () -> x.recover(1));
        CHECK.dueThrow(IllegalStateException.class, () -> x.recover(99));
        x.put(0, 1, 10);
        x.put(0, 2, 20);
        x.force();
        x.crash(-1);
        CHECK.dueThrow(IllegalArgumentException.class, () -> x.recover(0));
        CHECK.dueThrow(IllegalArgumentException.class, () -> x.recover(100));
        CHECK.due(1, x.recover(1));
        CHECK.due(2, x.recover(2));
        CHECK.due(1, x.sizeOf(0));
        CHECK.due(1, x.stampOf(0));
        CHECK.due(1, x.recover(1));
        CHECK.due(2, x.sizeOf(0));
        CHECK.due(1, x.recover(1));
        CHECK.due(1, x.sizeOf(0));
        CHECK.due('u', x.kindAt(3));
        CHECK.due(1, x.versionAt(0, 0));
        CHECK.due(3, x.stampOf(0));
        CHECK.due(2, x.recover(99));
        CHECK.due(0, x.sizeOf(0));
        CHECK.due('u', x.kindAt(4));
        CHECK.due('a', x.kindAt(5));
        CHECK.due(0, x.transactionAt(5));
        CHECK.due(5, x.logLength());
        CHECK.due('x', x.stateOf(0));
        CHECK.dueThrow(IllegalStateException.class, () -> x.recover(1));
        own(x, 0);
        CHECK.due(6, x.put(1, 1, 11));
    }

    private static void recoverKeepsWhatIsPromised() {
        CHECK.promise(41, "recover");
        RiptideLedger x = owned();
        x.put(0, 1, 10);
        x.commit(0);
        own(x, 1);
        x.put(1, 1, 11);
        x.force();
        x.commit(1);
        CHECK.due(11, x.value(1));
        CHECK.due(1, x.crash(-1));
        recoverAll(x);
        CHECK.due(10, x.value(1));
        CHECK.due(10, x.valueByReplay(1));
        CHECK.due('x', x.stateOf(1));
        CHECK.due('p', x.stateOf(0));
        CHECK.due(1, x.sizeOf(0));
        // what was lost and undone comes no more
        x.force();
        x.crash(-1);
        CHECK.due(5 + 5, x.recover(99));
        CHECK.due(1, x.sizeOf(0));
        CHECK.due(5, x.logLength());
    }

    private static void recoverAgain() {
        CHECK.promise(41, "recover");
        RiptideLedger x = owned();
        x.put(0, 1, 10);
        x.put(0, 2, 20);
        x.force();
        x.crash(-1);
        x.recover(1);
        CHECK.due(0, x.crash(-1));
        CHECK.due('a', x.phase());
        x.recover(3);
        CHECK.due('r', x.phase());
        CHECK.due(1, x.redone());
        CHECK.due(0, x.crash(-1));
        CHECK.due('a', x.phase());
        CHECK.due(0, x.stampOf(0));
        x.recover(5);
        CHECK.due('u', x.phase());
        CHECK.due(3, x.redone());
        CHECK.due(1, x.crash(-1));
        CHECK.due(2, x.logLength());
        CHECK.due(2 + 2 + 3, x.recover(99));
        CHECK.due(5, x.redone());
        CHECK.due(3, x.undone());
        CHECK.due('d', x.phase());
        // a page that was written amid the second phase is not made again as far as it was
        RiptideLedger y = owned();
        y.put(0, 1, 10);
        y.put(0, 2, 20);
        y.put(0, 3, 30);
        y.force();
        y.crash(-1);
        y.recover(5);
        CHECK.due(2, y.writePage(0));
        CHECK.due(3, y.recover(3));
        y.crash(-1);
        CHECK.due(2, y.sizeOf(0));
        y.recover(6);
        CHECK.due(4, y.redone());
    }

    private static void recoverUndoHalfDone() {
        CHECK.promise(41, "recover");
        RiptideLedger x = owned();
        x.put(0, 1, 10);
        x.put(0, 2, 20);
        x.put(0, 3, 30);
        x.force();
        x.crash(-1);
        CHECK.due(7, x.recover(7));
        CHECK.due('u', x.phase());
        x.force();
        CHECK.due(1, x.recover(1));
        CHECK.due(1, x.crash(-1));
        // the record 'u' that is durable is made again, and only two versions are left to undo
        CHECK.due(4 + 4 + 3, x.recover(99));
        CHECK.due(4, x.undone());
        CHECK.due(7, x.logLength());
        CHECK.due('u', x.kindAt(5));
        CHECK.due('u', x.kindAt(6));
        CHECK.due('a', x.kindAt(7));
        CHECK.due(0, x.sizeOf(0));
        // an abort whose records 'u' are durable, but not its record 'a'
        RiptideLedger y = owned();
        y.put(0, 1, 10);
        y.force();
        y.abort(0);
        y.crash(-1);
        CHECK.due('x', y.stateOf(0));
        recoverAll(y);
        CHECK.due(0, y.sizeOf(0));
        CHECK.due(2, y.undone());
        CHECK.due(true, y.isSound());
    }

    private static void recoverManyLosers() {
        CHECK.promise(41, "recover");
        RiptideLedger x = new RiptideLedger();
        for (int number = 0; number < 4; number++) {
            x.begin(number);
            x.lock(number, number * 10, number * 10 + 9, true);
        }
        x.put(3, 30, 1);
        x.put(1, 10, 2);
        x.put(3, 31, 3);
        x.put(2, 20, 4);
        x.commit(2);
        x.force();
        x.crash(-1);
        CHECK.due(5 + 5, x.recover(10));
        CHECK.due('u', x.phase());
        CHECK.due(3 + 2, x.recover(99));
        // by the numbers of the versions over all transactions, then a record 'a' each, the lowest first
        CHECK.due(3, x.transactionAt(6));
        CHECK.due(1, x.transactionAt(7));
        CHECK.due(3, x.transactionAt(8));
        CHECK.due('a', x.kindAt(9));
        CHECK.due(1, x.transactionAt(9));
        CHECK.due('a', x.kindAt(10));
        CHECK.due(3, x.transactionAt(10));
        CHECK.due(10, x.logLength());
        CHECK.due(4, x.value(20));
    }

    private static void recoverLateMark() {
        CHECK.promise(41, "recover");
        RiptideLedger x = owned();
        x.put(0, 1, 10);
        x.force();
        x.writePage(0);
        x.mark();
        x.commit(0);
        own(x, 0);
        x.put(1, 1, 11);
        x.abort(1);
        x.force();
        x.crash(-1);
        // the mark had 0 alive, its record 'c' takes it away; 1 came and went; the page is kept since 4
        CHECK.due(5 + 3, x.recover(99));
        CHECK.due(2, x.redone());
        CHECK.due(6, x.logLength());
        CHECK.due(4, x.firstDirty(0));
        CHECK.due(10, x.value(1));
    }

    private static void recoverCleaned() {
        CHECK.promise(41, "recover");
        RiptideLedger x = owned();
        x.put(0, 1, 10);
        x.put(0, 1, 11);
        x.commit(0);
        x.force();
        x.writePage(0);
        x.mark();
        x.clean();
        x.force();
        x.crash(-1);
        CHECK.due(2, x.sizeOf(0));
        // a record 'g' keeps its page, and is made again
        CHECK.due(2 + 1, x.recover(99));
        CHECK.due(1, x.redone());
        CHECK.due(1, x.sizeOf(0));
        CHECK.due(11, x.value(1));
        CHECK.due(5, x.stampOf(0));
    }

    private static void phases() {
        CHECK.promise(42, "phase");
        RiptideLedger x = owned();
        CHECK.due('d', x.phase());
        x.put(0, 1, 10);
        x.force();
        x.crash(-1);
        CHECK.due('a', x.phase());
        x.recover(1);
        CHECK.due('r', x.phase());
        x.recover(1);
        CHECK.due('u', x.phase());
        x.recover(1);
        CHECK.due('u', x.phase());
        x.recover(1);
        CHECK.due('d', x.phase());
        // no page is kept, so the second phase has no step; no transaction, so the third one has none
        RiptideLedger y = new RiptideLedger();
        y.mark();
        y.force();
        y.crash(-1);
        CHECK.due('a', y.phase());
        CHECK.due(1, y.recover(99));
        CHECK.due('d', y.phase());
        // no page, but a transaction is kept
        RiptideLedger z = owned();
        z.put(0, 1, 10);
        z.force();
        z.writePage(0);
        z.mark();
        z.force();
        z.crash(-1);
        CHECK.due(1, z.recover(1));
        CHECK.due('u', z.phase());
        CHECK.due(2, z.recover(99));
        CHECK.due('d', z.phase());
    }

    private static void redone() {
        CHECK.promise(43, "redone");
        RiptideLedger x = owned();
        x.put(0, 1, 10);
        x.put(0, 2, 10);
        x.force();
        x.writePage(0);
        x.put(0, 3, 10);
        x.commit(0);
        x.mark();
        x.force();
        CHECK.due(0, x.redone());
        x.crash(-1);
        x.recover(99);
        CHECK.due(1, x.redone());
        x.crash(-1);
        x.recover(99);
        CHECK.due(2, x.redone());
        x.writePage(0);
        x.crash(-1);
        x.recover(99);
        CHECK.due(2, x.redone());
    }

    private static void redoneSplit() {
        CHECK.promise(43, "redone");
        RiptideLedger x = owned();
        for (int key = 0; key < 7; key++) {
            x.put(0, key, key);
        }
        x.commit(0);
        x.force();
        x.crash(-1);
        x.recover(9 + 6);
        CHECK.due(6, x.redone());
        CHECK.due(6, x.sizeOf(0));
        CHECK.due(1, x.pages());
        x.recover(1);
        // both pages that a split changes
        CHECK.due(8, x.redone());
        CHECK.due(3, x.sizeOf(0));
        CHECK.due(3, x.sizeOf(1));
        CHECK.due(3, x.lowOf(1));
        CHECK.due(4, x.versionAt(1, 0));
        CHECK.due(7, x.firstDirty(1));
        CHECK.due(7, x.stampOf(1));
        x.recover(99);
        CHECK.due(9, x.redone());
        for (int key = 0; key < 7; key++) {
            CHECK.due(key, x.value(key));
        }
        // the old page was written behind the split: only the new one is made again
        RiptideLedger y = owned();
        for (int key = 0; key < 7; key++) {
            y.put(0, key, key);
        }
        y.commit(0);
        y.force();
        y.writePage(0);
        y.crash(-1);
        y.recover(99);
        CHECK.due(2, y.redone());
        CHECK.due(4, y.sizeOf(1));
        CHECK.due(true, y.isSound());
    }

    private static void undone() {
        CHECK.promise(44, "undone");
        RiptideLedger x = owned();
        x.put(0, 1, 10);
        x.put(0, 2, 10);
        CHECK.due(0, x.undone());
        x.abort(0);
        CHECK.due(2, x.undone());
        own(x, 0);
        x.put(1, 1, 10);
        x.commit(1);
        x.clean();
        CHECK.due(2, x.undone());
        own(x, 0);
        x.put(2, 2, 10);
        x.force();
        x.crash(-1);
        CHECK.due(2, x.undone());
        recoverAll(x);
        CHECK.due(3, x.undone());
        x.crash(-1);
        recoverAll(x);
        CHECK.due(4, x.undone());
        x.force();
        x.crash(-1);
        recoverAll(x);
        CHECK.due(4, x.undone());
    }

    private static void follow() {
        CHECK.promise(45, "follow");
        RiptideLedger x = owned();
        CHECK.dueThrow(IllegalArgumentException.class, () -> x.follow(0));
        CHECK.dueThrow(IllegalArgumentException.class, () -> x.follow(-1));
        CHECK.dueThrow(IllegalArgumentException.class, () -> x.follow(100));
        CHECK.due(0, x.follow(99));
        x.put(0, 1, 10);
        x.put(0, 1, 11);
        CHECK.due(0, x.follow(99));
        x.force();
        x.commit(0);
        CHECK.due(1, x.follow(1));
        CHECK.due(1, x.follow(99));
        CHECK.due(0, x.follow(1));
        x.force();
        x.crash(-1);
        CHECK.due(1, x.follow(2));
        CHECK.due(11, x.readPinned(-1, 1));
    }

    private static void replicaAt() {
        CHECK.promise(46, "replicaAt");
        RiptideLedger x = owned();
        x.put(0, 1, 10);
        x.put(0, 1, 11);
        x.put(0, 1, 12);
        CHECK.due(0, x.replicaAt());
        x.force();
        CHECK.due(0, x.replicaAt());
        x.follow(2);
        CHECK.due(2, x.replicaAt());
        x.follow(2);
        CHECK.due(3, x.replicaAt());
        x.commit(0);
        x.crash(-1);
        CHECK.due(3, x.replicaAt());
    }

    private static void pin() {
        CHECK.promise(47, "pin");
        RiptideLedger x = owned();
        x.put(0, 1, 10);
        x.commit(0);
        x.force();
        CHECK.due(0, x.pin());
        x.follow(1);
        CHECK.due(1, x.pin());
        x.follow(1);
        CHECK.due(2, x.pin());
        x.crash(-1);
        CHECK.due(3, x.pin());
        CHECK.due(4, x.pin());
        x.recover(99);
        CHECK.due(5, x.pin());
        CHECK.dueThrow(IllegalStateException.class, x::pin);
        CHECK.dueThrow(NoSuchElementException.class, () -> x.readPinned(0, 1));
        CHECK.dueThrow(NoSuchElementException.class, () -> x.readPinned(1, 1));
        CHECK.due(10, x.readPinned(2, 1));
        CHECK.due(10, x.readPinned(5, 1));
    }

    private static void readPinned() {
        CHECK.promise(48, "readPinned");
        RiptideLedger x = owned();
        CHECK.dueThrow(IndexOutOfBoundsException.class, () -> x.readPinned(0, 64));
        CHECK.dueThrow(IndexOutOfBoundsException.class, () -> x.readPinned(-2, 64));
        CHECK.dueThrow(IllegalArgumentException.class, () -> x.readPinned(-1, 64));
        CHECK.dueThrow(IllegalArgumentException.class, () -> x.readPinned(-1, -1));
        CHECK.dueThrow(NoSuchElementException.class, () -> x.readPinned(-1, 5));
        x.put(0, 5, 50);
        x.commit(0);
        own(x, 0);
        x.put(1, 5, 51);
        x.put(1, 6, 60);
        x.abort(1);
        own(x, 0);
        x.put(2, 6, 61);
        x.remove(2, 5);
        x.commit(2);
        x.clean();
        x.force();
        CHECK.dueThrow(NoSuchElementException.class, () -> x.readPinned(-1, 5));
        x.follow(1);
        // the version is there, but not yet the record that commits it
        CHECK.dueThrow(NoSuchElementException.class, () -> x.readPinned(-1, 5));
        x.follow(1);
        CHECK.due(50, x.readPinned(-1, 5));
        x.follow(2);
        x.pin();
        CHECK.due(50, x.readPinned(-1, 5));
        CHECK.dueThrow(NoSuchElementException.class, () -> x.readPinned(-1, 6));
        x.follow(99);
        CHECK.dueThrow(NoSuchElementException.class, () -> x.readPinned(-1, 5));
        CHECK.due(61, x.readPinned(-1, 6));
        CHECK.due(50, x.readPinned(0, 5));
        CHECK.dueThrow(NoSuchElementException.class, () -> x.readPinned(0, 6));
        CHECK.dueThrow(IndexOutOfBoundsException.class, () -> x.readPinned(1, 5));
        CHECK.dueThrow(IllegalArgumentException.class, () -> x.readPinned(0, 64));
        own(x, 0);
        x.put(3, 6, 62);
        x.commit(3);
        CHECK.due(61, x.readPinned(-1, 6));
        x.crash(-1);
        CHECK.due(61, x.readPinned(-1, 6));
        CHECK.due(50, x.readPinned(0, 5));
    }
}
