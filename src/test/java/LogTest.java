import java.util.NoSuchElementException;

/** Promises 22 to 39: the log and the pages. */
public final class LogTest {
    private static final Check CHECK = new Check("LogTest");

    private LogTest() { }

    public static void main(String[] args) {
        force();
        mark();
        markBoundsRecovery();
        logLengthAndDurable();
        kindAt();
        transactionAt();
        pageAt();
        writePage();
        isDirty();
        firstDirty();
        stampOf();
        pages();
        pageOf();
        lowOf();
        sizeOf();
        versionAt();
        keyAt();
        valueAt();
        CHECK.end();
    }

    /** A store whose transaction 0, of user 0, has an exclusive lock on all keys. */
    private static RiptideLedger owned() {
        RiptideLedger x = new RiptideLedger();
        x.begin(0);
        x.lock(0, 0, 63, true);
        return x;
    }

    /** A store with two pages: versions 1 to 6 of the keys 10 to 60, the split 7 at the key 40. */
    private static RiptideLedger split() {
        RiptideLedger x = owned();
        for (int key = 10; key <= 60; key += 10) {
            x.put(0, key, key * 10);
        }
        x.put(0, 45, 7);
        return x;
    }

    private static void force() {
        CHECK.promise(22, "force");
        RiptideLedger x = owned();
        CHECK.due(0, x.force());
        x.put(0, 1, 1);
        x.put(0, 2, 2);
        CHECK.due(2, x.force());
        CHECK.due(0, x.force());
        CHECK.due('l', x.stateOf(0));
        x.mark();
        CHECK.due(1, x.force());
        CHECK.due(3, x.durable());
        x.crash(-1);
        CHECK.due(0, x.force());
        x.recover(99);
        // two versions undone and a record 'a'
        CHECK.due(3, x.force());
    }

    private static void mark() {
        CHECK.promise(23, "mark");
        RiptideLedger x = owned();
        CHECK.due(1, x.mark());
        CHECK.due('k', x.kindAt(1));
        CHECK.due(0, x.durable());
        CHECK.due(false, x.isDirty(0));
        x.put(0, 5, 5);
        CHECK.due(3, x.mark());
        CHECK.due(2, x.stampOf(0));
        x.force();
        x.crash(-1);
        CHECK.dueThrow(IllegalStateException.class, x::mark);
        x.recover(99);
        CHECK.due(x.logLength() + 1, x.mark());
    }

    private static void markBoundsRecovery() {
        CHECK.promise(23, "mark");
        RiptideLedger x = owned();
        x.begin(1);
        x.put(0, 1, 10);
        x.commit(0);
        x.lock(1, 1, 1, true);
        x.put(1, 1, 11);
        x.begin(2);
        x.mark();
        x.force();
        x.crash(-1);
        // one step looks at the mark; the page is dirty since 1: four of the second phase; then 3 is undone
        CHECK.due(1, x.recover(1));
        CHECK.due('r', x.phase());
        CHECK.due(4, x.recover(4));
        CHECK.due('u', x.phase());
        CHECK.due(2, x.recover(99));
        CHECK.due('u', x.kindAt(5));
        CHECK.due(1, x.transactionAt(5));
        CHECK.due('a', x.kindAt(6));
        CHECK.due(1, x.transactionAt(6));
        CHECK.due(6, x.logLength());
        CHECK.due(10, x.value(1));
        // a clean page and an ended transaction are not in the mark
        RiptideLedger y = owned();
        y.put(0, 1, 10);
        y.commit(0);
        y.force();
        y.writePage(0);
        y.mark();
        y.force();
        y.crash(-1);
        CHECK.due(1, y.recover(99));
        CHECK.due('d', y.phase());
        CHECK.due(0, y.redone());
        CHECK.due(10, y.value(1));
        // one that is aborted is not, either; one that waits is
        RiptideLedger z = owned();
        z.put(0, 1, 10);
        z.begin(1);
        z.abort(0);
        z.lock(1, 2, 2, true);
        z.put(1, 2, 20);
        z.begin(2);
        z.lock(2, 3, 3, true);
        z.lock(1, 3, 3, true);
        z.force();
        z.writePage(0);
        z.mark();
        z.force();
        z.crash(-1);
        CHECK.due(3, z.recover(99));
        CHECK.due('u', z.kindAt(6));
        CHECK.due(1, z.transactionAt(7));
        CHECK.due(0, z.sizeOf(0));
        // the last mark that is durable counts
        RiptideLedger v = owned();
        v.put(0, 1, 10);
        v.mark();
        v.mark();
        v.force();
        v.mark();
        CHECK.due(1, v.crash(-1));
        CHECK.due(1, v.recover(1));
        CHECK.due('r', v.phase());
    }

    private static void logLengthAndDurable() {
        CHECK.promise(24, "logLength");
        RiptideLedger x = owned();
        CHECK.due(0, x.logLength());
        x.put(0, 1, 1);
        x.put(0, 2, 1);
        CHECK.due(2, x.logLength());
        CHECK.promise(25, "durable");
        CHECK.due(0, x.durable());
        x.force();
        CHECK.due(2, x.durable());
        x.commit(0);
        CHECK.due(2, x.durable());
        CHECK.promise(24, "logLength");
        CHECK.due(3, x.logLength());
        x.crash(-1);
        CHECK.due(2, x.logLength());
        CHECK.promise(25, "durable");
        CHECK.due(2, x.durable());
        x.recover(99);
        CHECK.due(2, x.durable());
        CHECK.promise(24, "logLength");
        CHECK.due(5, x.logLength());
    }

    private static void kindAt() {
        CHECK.promise(26, "kindAt");
        RiptideLedger x = split();
        CHECK.dueThrow(IndexOutOfBoundsException.class, () -> x.kindAt(0));
        CHECK.dueThrow(IndexOutOfBoundsException.class, () -> x.kindAt(-1));
        CHECK.dueThrow(IndexOutOfBoundsException.class, () -> x.kindAt(9));
        CHECK.due('i', x.kindAt(1));
        CHECK.due('s', x.kindAt(7));
        CHECK.due('i', x.kindAt(8));
        x.remove(0, 45);
        CHECK.due('i', x.kindAt(9));
        x.commit(0);
        CHECK.due('c', x.kindAt(10));
        x.mark();
        CHECK.due('k', x.kindAt(11));
        x.clean();
        CHECK.due('g', x.kindAt(12));
        x.begin(0);
        x.lock(1, 0, 0, true);
        x.put(1, 0, 0);
        x.abort(1);
        CHECK.due('u', x.kindAt(15));
        CHECK.due('a', x.kindAt(16));
        CHECK.dueThrow(IndexOutOfBoundsException.class, () -> x.kindAt(17));
        x.crash(-1);
        CHECK.dueThrow(IndexOutOfBoundsException.class, () -> x.kindAt(1));
    }

    private static void transactionAt() {
        CHECK.promise(27, "transactionAt");
        RiptideLedger x = split();
        CHECK.dueThrow(IndexOutOfBoundsException.class, () -> x.transactionAt(0));
        CHECK.dueThrow(IndexOutOfBoundsException.class, () -> x.transactionAt(9));
        CHECK.due(0, x.transactionAt(1));
        CHECK.dueThrow(NoSuchElementException.class, () -> x.transactionAt(7));
        x.remove(0, 45);
        x.commit(0);
        CHECK.due(0, x.transactionAt(10));
        x.mark();
        CHECK.dueThrow(NoSuchElementException.class, () -> x.transactionAt(11));
        x.clean();
        CHECK.dueThrow(NoSuchElementException.class, () -> x.transactionAt(12));
        CHECK.dueThrow(NoSuchElementException.class, () -> x.transactionAt(13));
        x.begin(0);
        x.begin(0);
        x.lock(2, 0, 0, true);
        x.put(2, 0, 0);
        x.abort(2);
        CHECK.due(2, x.transactionAt(14));
        CHECK.due(2, x.transactionAt(15));
        CHECK.due(2, x.transactionAt(16));
    }

    private static void pageAt() {
        CHECK.promise(28, "pageAt");
        RiptideLedger x = split();
        CHECK.dueThrow(IndexOutOfBoundsException.class, () -> x.pageAt(0));
        CHECK.dueThrow(IndexOutOfBoundsException.class, () -> x.pageAt(9));
        CHECK.due(0, x.pageAt(6));
        CHECK.due(0, x.pageAt(7));
        CHECK.due(1, x.pageAt(8));
        x.remove(0, 45);
        x.commit(0);
        CHECK.dueThrow(NoSuchElementException.class, () -> x.pageAt(10));
        x.mark();
        CHECK.dueThrow(NoSuchElementException.class, () -> x.pageAt(11));
        x.clean();
        CHECK.due(1, x.pageAt(12));
        x.begin(0);
        x.lock(1, 0, 63, true);
        x.put(1, 63, 0);
        x.put(1, 0, 0);
        x.abort(1);
        CHECK.due(0, x.pageAt(16));
        CHECK.due(1, x.pageAt(17));
        CHECK.dueThrow(NoSuchElementException.class, () -> x.pageAt(18));
        // a page that came by a split can be split itself
        x.begin(0);
        x.lock(2, 0, 63, true);
        int key = 46;
        while (x.pages() == 2) {
            x.put(2, key, 1);
            key++;
        }
        CHECK.due('s', x.kindAt(x.logLength() - 1));
        CHECK.due(1, x.pageAt(x.logLength() - 1));
    }

    private static void writePage() {
        CHECK.promise(29, "writePage");
        RiptideLedger x = split();
        CHECK.dueThrow(IndexOutOfBoundsException.class, () -> x.writePage(2));
        CHECK.dueThrow(IndexOutOfBoundsException.class, () -> x.writePage(-1));
        CHECK.dueThrow(IndexOutOfBoundsException.class, () -> x.writePage(12));
        CHECK.dueThrow(UnsupportedOperationException.class, () -> x.writePage(0));
        x.force();
        CHECK.due(7, x.writePage(0));
        CHECK.dueThrow(IllegalStateException.class, () -> x.writePage(0));
        CHECK.due(false, x.isDirty(0));
        x.put(0, 46, 1);
        CHECK.dueThrow(UnsupportedOperationException.class, () -> x.writePage(1));
        CHECK.due(1, x.pagesWritten());
        x.commit(0);
        x.force();
        CHECK.due(9, x.writePage(1));
        x.crash(-1);
        CHECK.due(2, x.pages());
        CHECK.due(3, x.sizeOf(0));
        CHECK.due(5, x.sizeOf(1));
        CHECK.due(40, x.lowOf(1));
        CHECK.due(9, x.stampOf(1));
        CHECK.dueThrow(IllegalStateException.class, () -> x.writePage(1));
        x.recover(99);
        CHECK.due(0, x.redone());
        CHECK.due(1, x.value(46));
        // a later change of the cache does not change the disk
        x.begin(0);
        x.lock(1, 0, 63, true);
        x.put(1, 11, 5);
        x.put(1, 11, 6);
        x.force();
        x.crash(-1);
        CHECK.due(3, x.sizeOf(0));
        CHECK.due(7, x.stampOf(0));
        x.recover(24);
        // what recovery made again can be written before recovery ends
        CHECK.due('u', x.phase());
        CHECK.due(12, x.logLength());
        CHECK.due(12, x.writePage(0));
    }

    private static void isDirty() {
        CHECK.promise(30, "isDirty");
        RiptideLedger x = split();
        CHECK.dueThrow(IndexOutOfBoundsException.class, () -> x.isDirty(2) ? 1 : 0);
        CHECK.dueThrow(IndexOutOfBoundsException.class, () -> x.isDirty(-1) ? 1 : 0);
        CHECK.due(true, x.isDirty(0));
        CHECK.due(true, x.isDirty(1));
        x.force();
        x.writePage(1);
        CHECK.due(true, x.isDirty(0));
        CHECK.due(false, x.isDirty(1));
        x.commit(0);
        x.mark();
        CHECK.due(false, x.isDirty(1));
        x.begin(0);
        x.lock(1, 45, 45, true);
        x.put(1, 45, 8);
        CHECK.due(true, x.isDirty(1));
        x.force();
        x.crash(-1);
        CHECK.due(false, x.isDirty(0));
        CHECK.due(false, x.isDirty(1));
        while (x.phase() != 'u') {
            x.recover(1);
        }
        CHECK.due(true, x.isDirty(0));
        CHECK.due(true, x.isDirty(1));
    }

    private static void firstDirty() {
        CHECK.promise(31, "firstDirty");
        RiptideLedger x = split();
        CHECK.dueThrow(IndexOutOfBoundsException.class, () -> x.firstDirty(2));
        CHECK.dueThrow(IndexOutOfBoundsException.class, () -> x.firstDirty(-1));
        CHECK.due(1, x.firstDirty(0));
        CHECK.due(7, x.firstDirty(1));
        x.force();
        x.writePage(0);
        CHECK.dueThrow(IllegalStateException.class, () -> x.firstDirty(0));
        x.put(0, 1, 1);
        x.put(0, 2, 1);
        CHECK.due(9, x.firstDirty(0));
        CHECK.due(10, x.stampOf(0));
        x.force();
        x.crash(-1);
        CHECK.dueThrow(IllegalStateException.class, () -> x.firstDirty(0));
        while (x.phase() != 'u') {
            x.recover(1);
        }
        CHECK.due(9, x.firstDirty(0));
        CHECK.due(7, x.firstDirty(1));
    }

    private static void stampOf() {
        CHECK.promise(32, "stampOf");
        RiptideLedger x = owned();
        CHECK.dueThrow(IndexOutOfBoundsException.class, () -> x.stampOf(1));
        CHECK.dueThrow(IndexOutOfBoundsException.class, () -> x.stampOf(-1));
        CHECK.due(0, x.stampOf(0));
        x.put(0, 1, 1);
        CHECK.due(1, x.stampOf(0));
        x.mark();
        CHECK.due(1, x.stampOf(0));
        x.remove(0, 1);
        CHECK.due(3, x.stampOf(0));
        x.abort(0);
        CHECK.due(5, x.stampOf(0));
        x.force();
        CHECK.due(5, x.writePage(0));
        CHECK.due(5, x.stampOf(0));
        RiptideLedger y = split();
        CHECK.due(7, y.stampOf(0));
        CHECK.due(8, y.stampOf(1));
        y.force();
        y.crash(-1);
        CHECK.due(0, y.stampOf(0));
        CHECK.dueThrow(IndexOutOfBoundsException.class, () -> y.stampOf(1));
    }

    private static void pages() {
        CHECK.promise(33, "pages");
        RiptideLedger x = split();
        CHECK.due(2, x.pages());
        x.put(0, 46, 1);
        x.put(0, 47, 1);
        CHECK.due(2, x.pages());
        x.put(0, 48, 1);
        CHECK.due(3, x.pages());
        x.force();
        x.writePage(2);
        x.crash(-1);
        // page 1 was never written, so it is not there; page 0 always is
        CHECK.due(2, x.pages());
        CHECK.dueThrow(IndexOutOfBoundsException.class, () -> x.sizeOf(1));
        CHECK.due(0, x.sizeOf(0));
        CHECK.due(47, x.lowOf(2));
        while (x.phase() != 'u') {
            x.recover(1);
        }
        CHECK.due(3, x.pages());
        CHECK.due(40, x.lowOf(1));
        RiptideLedger y = split();
        y.crash(-1);
        CHECK.due(1, y.pages());
    }

    private static void pageOf() {
        CHECK.promise(34, "pageOf");
        RiptideLedger x = split();
        CHECK.dueThrow(IllegalArgumentException.class, () -> x.pageOf(-1));
        CHECK.dueThrow(IllegalArgumentException.class, () -> x.pageOf(64));
        CHECK.due(0, x.pageOf(0));
        CHECK.due(0, x.pageOf(39));
        CHECK.due(1, x.pageOf(40));
        CHECK.due(1, x.pageOf(63));
        x.put(0, 1, 1);
        x.put(0, 2, 1);
        x.put(0, 3, 1);
        x.put(0, 4, 1);
        CHECK.due(3, x.pages());
        CHECK.due(10, x.lowOf(2));
        CHECK.due(0, x.pageOf(9));
        CHECK.due(2, x.pageOf(10));
        CHECK.due(2, x.pageOf(39));
        CHECK.due(1, x.pageOf(40));
        x.force();
        x.crash(-1);
        CHECK.dueThrow(IllegalStateException.class, () -> x.pageOf(0));
        CHECK.dueThrow(IllegalArgumentException.class, () -> x.pageOf(64));
    }

    private static void lowOf() {
        CHECK.promise(35, "lowOf");
        RiptideLedger x = split();
        CHECK.dueThrow(IndexOutOfBoundsException.class, () -> x.lowOf(-1));
        CHECK.dueThrow(IndexOutOfBoundsException.class, () -> x.lowOf(2));
        CHECK.dueThrow(IndexOutOfBoundsException.class, () -> x.lowOf(12));
        CHECK.due(0, x.lowOf(0));
        CHECK.due(40, x.lowOf(1));
        x.abort(0);
        CHECK.due(40, x.lowOf(1));
    }

    private static void sizeOf() {
        CHECK.promise(36, "sizeOf");
        RiptideLedger x = split();
        CHECK.dueThrow(IndexOutOfBoundsException.class, () -> x.sizeOf(-1));
        CHECK.dueThrow(IndexOutOfBoundsException.class, () -> x.sizeOf(2));
        CHECK.due(3, x.sizeOf(0));
        CHECK.due(4, x.sizeOf(1));
        x.remove(0, 10);
        CHECK.due(4, x.sizeOf(0));
        x.commit(0);
        x.clean();
        CHECK.due(2, x.sizeOf(0));
        CHECK.due(4, x.sizeOf(1));
    }

    private static void versionAt() {
        CHECK.promise(37, "versionAt");
        RiptideLedger x = split();
        CHECK.dueThrow(IndexOutOfBoundsException.class, () -> x.versionAt(-1, 0));
        CHECK.dueThrow(IndexOutOfBoundsException.class, () -> x.versionAt(2, -1));
        CHECK.dueThrow(NoSuchElementException.class, () -> x.versionAt(0, -1));
        CHECK.dueThrow(NoSuchElementException.class, () -> x.versionAt(0, 3));
        CHECK.dueThrow(NoSuchElementException.class, () -> x.versionAt(1, 4));
        CHECK.dueThrow(NoSuchElementException.class, () -> x.versionAt(1, 400));
        CHECK.due(1, x.versionAt(0, 0));
        CHECK.due(3, x.versionAt(0, 2));
        CHECK.due(4, x.versionAt(1, 0));
        CHECK.due(8, x.versionAt(1, 1));
        CHECK.due(5, x.versionAt(1, 2));
        CHECK.due(6, x.versionAt(1, 3));
        x.put(0, 10, 1);
        CHECK.due(1, x.versionAt(0, 0));
        CHECK.due(9, x.versionAt(0, 1));
        CHECK.due(2, x.versionAt(0, 2));
    }

    private static void keyAt() {
        CHECK.promise(38, "keyAt");
        RiptideLedger x = split();
        CHECK.dueThrow(IndexOutOfBoundsException.class, () -> x.keyAt(-1, 0));
        CHECK.dueThrow(IndexOutOfBoundsException.class, () -> x.keyAt(2, 9));
        CHECK.dueThrow(NoSuchElementException.class, () -> x.keyAt(0, -1));
        CHECK.dueThrow(NoSuchElementException.class, () -> x.keyAt(0, 3));
        CHECK.due(10, x.keyAt(0, 0));
        CHECK.due(30, x.keyAt(0, 2));
        CHECK.due(45, x.keyAt(1, 1));
        CHECK.due(60, x.keyAt(1, 3));
        x.put(0, 0, 1);
        CHECK.due(0, x.keyAt(0, 0));
        CHECK.due(10, x.keyAt(0, 1));
    }

    private static void valueAt() {
        CHECK.promise(39, "valueAt");
        RiptideLedger x = split();
        CHECK.dueThrow(IndexOutOfBoundsException.class, () -> x.valueAt(-1, 0));
        CHECK.dueThrow(IndexOutOfBoundsException.class, () -> x.valueAt(2, 9));
        CHECK.dueThrow(NoSuchElementException.class, () -> x.valueAt(0, -1));
        CHECK.dueThrow(NoSuchElementException.class, () -> x.valueAt(0, 3));
        CHECK.due(100, x.valueAt(0, 0));
        CHECK.due(7, x.valueAt(1, 1));
        x.remove(0, 45);
        CHECK.due(7, x.valueAt(1, 1));
        CHECK.due(-1, x.valueAt(1, 2));
        x.put(0, 11, 0);
        CHECK.due(0, x.valueAt(0, 1));
    }
}
