import java.util.List;
import java.util.NoSuchElementException;
import java.util.function.Supplier;

/**
 * Promises 1 to 52: for each 'Throws' of the document the calls on both sides of its boundary, the one that is refused
 * and the one that is taken; which exception comes first if several apply; and that a refused call changes nothing.
 */
public final class EdgesTest {
    private static final Check CHECK = new Check("EdgesTest");
    private static final Edges EDGES = new Edges(CHECK);

    private static final Class<IndexOutOfBoundsException> NO_SUCH = IndexOutOfBoundsException.class;
    private static final Class<IllegalArgumentException> ARGUMENT = IllegalArgumentException.class;
    private static final Class<IllegalStateException> STATE = IllegalStateException.class;
    private static final Class<UnsupportedOperationException> UNSUPPORTED = UnsupportedOperationException.class;
    private static final Class<NoSuchElementException> NO_ELEMENT = NoSuchElementException.class;

    private static final int LOST = Scenes.LOST;
    private static final int PROMISED = Scenes.PROMISED;
    private static final int LIVE = Scenes.LIVE;
    private static final int WAITING = Scenes.WAITING;
    private static final int COMMITTED = Scenes.COMMITTED;
    private static final int ABORTED = Scenes.ABORTED;
    private static final int RING_FIRST = Scenes.RING_FIRST;
    private static final int RINGED = Scenes.RINGED;
    private static final int EIGHT_LOCKS = Scenes.EIGHT_LOCKS;
    private static final int AT_QUOTA = Scenes.AT_QUOTA;
    private static final int COUNT = Scenes.COUNT;

    private static final Supplier<RiptideLedger> NEW = RiptideLedger::new;
    private static final Supplier<RiptideLedger> BUSY = Scenes::busy;
    private static final Supplier<RiptideLedger> ANALYSING = Scenes::analysing;
    private static final Supplier<RiptideLedger> REDOING = Scenes::redoing;
    private static final Supplier<RiptideLedger> UNDOING = Scenes::undoing;
    private static final Supplier<RiptideLedger> OWNED = Scenes::owned;
    private static final Supplier<RiptideLedger> ONE_KEY = Scenes::oneKey;
    private static final Supplier<RiptideLedger> TWELVE_PAGES = Scenes::twelvePages;
    private static final Supplier<RiptideLedger> SIXTY = () -> Scenes.with(60);
    private static final Supplier<RiptideLedger> SIX_KEPT = () -> Scenes.kept(6, 6);

    private static final List<Supplier<RiptideLedger>> DOWN = List.of(ANALYSING, REDOING, UNDOING);
    private static final List<Supplier<RiptideLedger>> ANY = List.of(NEW, BUSY, ANALYSING, REDOING, UNDOING);
    /** Numbers that are far below or above all that can be meant. */
    private static final int[] FAR = {Integer.MIN_VALUE, -2, 100, Integer.MAX_VALUE};
    private static final int[] NO_KEYS = {Integer.MIN_VALUE, -1, 64, Integer.MAX_VALUE};

    private EdgesTest() { }

    public static void main(String[] args) {
        begin();
        lock();
        lockStates();
        locksOf();
        waitsFor();
        putArguments();
        putStates();
        putUnsupported();
        putRoom();
        remove();
        removeNothing();
        read();
        commit();
        abort();
        stateOf();
        setQuota();
        versionsOf();
        snapshot();
        readAt();
        drop();
        cleanAndMark();
        value();
        valueByReplay();
        kindAt();
        transactionAt();
        pageAt();
        writePage();
        isDirty();
        firstDirty();
        stampOf();
        pageOf();
        lowOf();
        sizeOf();
        versionAt();
        keyAt();
        valueAt();
        crash();
        recover();
        follow();
        pin();
        readPinned();
        CHECK.end();
    }

    /** The call, with a transaction, is refused for each number of a transaction that there is not. */
    private static void noSuchTransaction(TransactionCall call) {
        for (Supplier<RiptideLedger> scene : ANY) {
            int count = scene == NEW ? 0 : COUNT;
            EDGES.refused(NO_SUCH, scene, x -> call.on(x, -1));
            EDGES.refused(NO_SUCH, scene, x -> call.on(x, count));
        }
        for (int far : FAR) {
            EDGES.refused(NO_SUCH, BUSY, x -> call.on(x, far));
        }
        EDGES.refused(NO_SUCH, SIXTY, x -> call.on(x, 60));
    }

    /** The call, with a page, is refused for each number of a page that is not there. */
    private static void noSuchPage(Class<? extends RuntimeException> due, TransactionCall call) {
        EDGES.refused(due, NEW, x -> call.on(x, 1));
        EDGES.refused(due, BUSY, x -> call.on(x, 3));
        EDGES.refused(due, ANALYSING, x -> call.on(x, 1));
        EDGES.refused(due, ANALYSING, x -> call.on(x, 2));
        EDGES.refused(due, REDOING, x -> call.on(x, 3));
        EDGES.refused(due, TWELVE_PAGES, x -> call.on(x, 12));
        for (int far : FAR) {
            EDGES.refused(due, BUSY, x -> call.on(x, far));
        }
    }

    private interface TransactionCall {
        Object on(RiptideLedger x, int number);
    }

    private static void begin() {
        CHECK.promise(2, "begin");
        for (int user : new int[] {Integer.MIN_VALUE, -1, 4, Integer.MAX_VALUE}) {
            EDGES.refused(ARGUMENT, BUSY, x -> x.begin(user));
            EDGES.refused(ARGUMENT, ANALYSING, x -> x.begin(user));
            EDGES.refused(ARGUMENT, SIXTY, x -> x.begin(user));
        }
        EDGES.taken(COUNT, BUSY, x -> x.begin(0));
        EDGES.taken(COUNT, BUSY, x -> x.begin(3));
        EDGES.taken(0, NEW, x -> x.begin(0));
        for (Supplier<RiptideLedger> scene : DOWN) {
            EDGES.refused(STATE, scene, x -> x.begin(0));
        }
        EDGES.taken(COUNT, () -> Scenes.recovered(Scenes.undoing()), x -> x.begin(0));
        EDGES.refused(STATE, SIXTY, x -> x.begin(0));
        EDGES.taken(59, () -> Scenes.with(59), x -> x.begin(0));
        // those that have ended, or are lost, are there too
        EDGES.refused(STATE, EdgesTest::sixtyEnded, x -> x.begin(0));
        EDGES.refused(STATE, EdgesTest::sixtyLost, x -> x.begin(0));
    }

    private static RiptideLedger sixtyEnded() {
        RiptideLedger x = Scenes.with(60);
        for (int number = 0; number < 60; number++) {
            x.commit(number);
        }
        return x;
    }

    private static RiptideLedger sixtyLost() {
        RiptideLedger x = Scenes.with(60);
        x.crash(-1);
        return x;
    }

    private static void lock() {
        CHECK.promise(3, "lock");
        noSuchTransaction((x, number) -> x.lock(number, 20, 20, true));
        noSuchTransaction((x, number) -> x.lock(number, -1, 64, true));
        noSuchTransaction((x, number) -> x.lock(number, 21, 20, true));
        for (int key : NO_KEYS) {
            EDGES.refused(ARGUMENT, BUSY, x -> x.lock(LIVE, key, key, false));
            EDGES.refused(ARGUMENT, BUSY, x -> x.lock(LIVE, 20, key, false));
            EDGES.refused(ARGUMENT, BUSY, x -> x.lock(LIVE, key, 20, true));
            EDGES.refused(ARGUMENT, BUSY, x -> x.lock(ABORTED, key, key, true));
            EDGES.refused(ARGUMENT, BUSY, x -> x.lock(EIGHT_LOCKS, 0, key, true));
            EDGES.refused(ARGUMENT, ANALYSING, x -> x.lock(LIVE, key, 20, true));
        }
        EDGES.refused(ARGUMENT, BUSY, x -> x.lock(LIVE, 21, 20, false));
        EDGES.refused(ARGUMENT, BUSY, x -> x.lock(LIVE, 63, 0, false));
        EDGES.refused(ARGUMENT, BUSY, x -> x.lock(WAITING, 21, 20, false));
        EDGES.refused(ARGUMENT, BUSY, x -> x.lock(EIGHT_LOCKS, 21, 20, false));
        for (Supplier<RiptideLedger> scene : DOWN) {
            EDGES.refused(ARGUMENT, scene, x -> x.lock(LIVE, 21, 20, false));
        }
        EDGES.taken('g', BUSY, x -> x.lock(LIVE, 20, 20, true));
        EDGES.taken('g', BUSY, x -> x.lock(LIVE, 20, 21, true));
        EDGES.taken('g', BUSY, x -> x.lock(LIVE, 0, 0, false));
        EDGES.taken('g', BUSY, x -> x.lock(LIVE, 63, 63, true));
        EDGES.taken('g', () -> Scenes.with(60), x -> x.lock(59, 0, 63, true));
        EDGES.taken('g', () -> Scenes.with(60), x -> x.lock(0, 0, 63, true));
    }

    private static void lockStates() {
        CHECK.promise(3, "lock");
        for (int number : new int[] {LOST, PROMISED, WAITING, COMMITTED, ABORTED, RINGED}) {
            EDGES.refused(STATE, BUSY, x -> x.lock(number, 20, 20, true));
        }
        for (Supplier<RiptideLedger> scene : DOWN) {
            for (int number = 0; number < COUNT; number++) {
                int given = number;
                EDGES.refused(STATE, scene, x -> x.lock(given, 20, 20, true));
            }
        }
        EDGES.refused(STATE, BUSY, x -> x.lock(EIGHT_LOCKS, 20, 20, true));
        EDGES.refused(STATE, BUSY, x -> x.lock(EIGHT_LOCKS, 0, 0, false));
        EDGES.taken('g', EdgesTest::sevenLocks, x -> x.lock(0, 8, 8, true));
        EDGES.taken(8, EdgesTest::sevenLocks, x -> x.lock(0, 8, 8, true) == 'g' ? x.locksOf(0) : -1);
        EDGES.refused(STATE, EdgesTest::sevenLocksAndOneWaitedFor, x -> x.lock(0, 8, 8, true));
    }

    private static RiptideLedger sevenLocks() {
        RiptideLedger x = Scenes.with(1);
        for (int key = 0; key < 7; key++) {
            x.lock(0, key, key, true);
        }
        return x;
    }

    /** The eighth lock was waited for, and is granted now. */
    private static RiptideLedger sevenLocksAndOneWaitedFor() {
        RiptideLedger x = sevenLocks();
        x.begin(0);
        x.lock(1, 50, 50, true);
        x.lock(0, 50, 50, true);
        x.commit(1);
        return x;
    }

    private static void locksOf() {
        CHECK.promise(4, "locksOf");
        noSuchTransaction((x, number) -> x.locksOf(number));
        int[] due = {0, 0, 2, 1, 0, 0, 2, 0, 8, 1};
        for (int number = 0; number < COUNT; number++) {
            int given = number;
            EDGES.taken(due[number], BUSY, x -> x.locksOf(given));
            EDGES.taken(0, ANALYSING, x -> x.locksOf(given));
        }
    }

    private static void waitsFor() {
        CHECK.promise(5, "waitsFor");
        noSuchTransaction((x, number) -> x.waitsFor(number));
        for (int number = 0; number < COUNT; number++) {
            int given = number;
            EDGES.refused(NO_ELEMENT, ANALYSING, x -> x.waitsFor(given));
            if (number != WAITING) {
                EDGES.refused(NO_ELEMENT, BUSY, x -> x.waitsFor(given));
            }
        }
        EDGES.taken(LIVE, BUSY, x -> x.waitsFor(WAITING));
    }

    private static void putArguments() {
        CHECK.promise(6, "put");
        noSuchTransaction((x, number) -> x.put(number, 20, 5));
        noSuchTransaction((x, number) -> x.put(number, 64, 10000));
        for (int key : NO_KEYS) {
            EDGES.refused(ARGUMENT, OWNED, x -> x.put(0, key, 5));
            EDGES.refused(ARGUMENT, BUSY, x -> x.put(COMMITTED, key, 5));
            EDGES.refused(ARGUMENT, BUSY, x -> x.put(AT_QUOTA, key, 5));
            EDGES.refused(ARGUMENT, REDOING, x -> x.put(LIVE, key, 5));
        }
        for (int value : new int[] {Integer.MIN_VALUE, -1, 10000, Integer.MAX_VALUE}) {
            EDGES.refused(ARGUMENT, OWNED, x -> x.put(0, 5, value));
            EDGES.refused(ARGUMENT, BUSY, x -> x.put(WAITING, 60, value));
            EDGES.refused(ARGUMENT, BUSY, x -> x.put(RING_FIRST, 0, value));
            EDGES.refused(ARGUMENT, ONE_KEY, x -> x.put(0, 20, value));
            EDGES.refused(ARGUMENT, UNDOING, x -> x.put(LIVE, 50, value));
        }
        EDGES.taken(1, OWNED, x -> x.put(0, 0, 5));
        EDGES.taken(1, OWNED, x -> x.put(0, 63, 5));
        EDGES.taken(0, OWNED, x -> x.put(0, 5, 0) == 1 ? x.valueAt(0, 0) : -2);
        EDGES.taken(9999, OWNED, x -> x.put(0, 5, 9999) == 1 ? x.valueAt(0, 0) : -2);
    }

    private static void putStates() {
        CHECK.promise(6, "put");
        // the key 60 is locked by the one that waits, and the others have no lock at all
        for (int number : new int[] {LOST, PROMISED, WAITING, COMMITTED, ABORTED, RINGED}) {
            EDGES.refused(STATE, BUSY, x -> x.put(number, 60, 5));
        }
        for (Supplier<RiptideLedger> scene : DOWN) {
            EDGES.refused(STATE, scene, x -> x.put(LIVE, 50, 5));
            EDGES.refused(STATE, scene, x -> x.put(PROMISED, 50, 5));
        }
    }

    private static void putUnsupported() {
        CHECK.promise(6, "put");
        EDGES.refused(UNSUPPORTED, BUSY, x -> x.put(LIVE, 49, 5));
        EDGES.taken(21, BUSY, x -> x.put(LIVE, 50, 5));
        EDGES.taken(21, BUSY, x -> x.put(LIVE, 55, 5));
        // 56 is locked, but shared
        EDGES.refused(UNSUPPORTED, BUSY, x -> x.put(LIVE, 56, 5));
        EDGES.refused(UNSUPPORTED, BUSY, x -> x.put(LIVE, 57, 5));
        EDGES.refused(UNSUPPORTED, BUSY, x -> x.put(EIGHT_LOCKS, 5, 5));
        EDGES.refused(UNSUPPORTED, BUSY, x -> x.put(RING_FIRST, 0, 5));
        EDGES.taken(20, BUSY, x -> x.lock(RING_FIRST, 20, 20, true) == 'g' ? x.put(RING_FIRST, 20, 5) : -1);
        EDGES.refused(UNSUPPORTED, BUSY, x -> x.put(AT_QUOTA, 30, 5));
        EDGES.refused(UNSUPPORTED, EdgesTest::quotaBelow, x -> x.put(AT_QUOTA, 30, 5));
        EDGES.taken(21, EdgesTest::quotaAbove, x -> x.put(AT_QUOTA, 30, 5));
        EDGES.refused(UNSUPPORTED, EdgesTest::quotaOfNone, x -> x.put(0, 0, 5));
    }

    private static RiptideLedger quotaBelow() {
        RiptideLedger x = Scenes.busy();
        x.setQuota(3, 0);
        return x;
    }

    private static RiptideLedger quotaAbove() {
        RiptideLedger x = Scenes.busy();
        x.setQuota(3, 2);
        return x;
    }

    private static RiptideLedger quotaOfNone() {
        RiptideLedger x = Scenes.owned();
        x.setQuota(0, 0);
        return x;
    }

    private static void putRoom() {
        CHECK.promise(6, "put");
        for (int key : new int[] {0, 19, 20, 21, 63}) {
            EDGES.refused(UNSUPPORTED, ONE_KEY, x -> x.put(0, key, 5));
        }
        EDGES.taken(6, () -> Scenes.filled(20, 20, 20, 20, 20), x -> x.put(0, 20, 5));
        EDGES.taken(8, () -> Scenes.filled(20, 20, 20, 20, 20, 21), x -> x.put(0, 20, 5));
        for (int key = 33; key < 64; key++) {
            int given = key;
            EDGES.refused(UNSUPPORTED, TWELVE_PAGES, x -> x.put(0, given, 5));
        }
        EDGES.taken(51, TWELVE_PAGES, x -> x.put(0, 32, 5));
        EDGES.taken(50, () -> Scenes.filledUp(12, 5), x -> x.put(0, 63, 5));
        EDGES.taken(12, () -> Scenes.filledUp(11, 6), x -> x.put(0, 63, 5) == 48 ? x.pages() : -1);
    }

    private static void remove() {
        CHECK.promise(7, "remove");
        noSuchTransaction((x, number) -> x.remove(number, 20));
        noSuchTransaction((x, number) -> x.remove(number, 64));
        for (int key : NO_KEYS) {
            EDGES.refused(ARGUMENT, OWNED, x -> x.remove(0, key));
            EDGES.refused(ARGUMENT, BUSY, x -> x.remove(RINGED, key));
            EDGES.refused(ARGUMENT, BUSY, x -> x.remove(AT_QUOTA, key));
            EDGES.refused(ARGUMENT, ANALYSING, x -> x.remove(LIVE, key));
        }
        EDGES.taken(2, () -> Scenes.filled(0), x -> x.remove(0, 0));
        EDGES.taken(2, () -> Scenes.filled(63), x -> x.remove(0, 63));
        for (int number : new int[] {LOST, PROMISED, WAITING, COMMITTED, ABORTED, RINGED}) {
            EDGES.refused(STATE, BUSY, x -> x.remove(number, 60));
        }
        for (Supplier<RiptideLedger> scene : DOWN) {
            EDGES.refused(STATE, scene, x -> x.remove(LIVE, 50));
            EDGES.refused(STATE, scene, x -> x.remove(LIVE, 63));
        }
        EDGES.refused(UNSUPPORTED, BUSY, x -> x.remove(LIVE, 40));
        EDGES.refused(UNSUPPORTED, BUSY, x -> x.remove(LIVE, 49));
        EDGES.refused(UNSUPPORTED, BUSY, x -> x.remove(LIVE, 56));
        EDGES.refused(UNSUPPORTED, BUSY, x -> x.remove(EIGHT_LOCKS, 0));
        EDGES.taken(21, BUSY, x -> x.remove(LIVE, 50));
        EDGES.refused(UNSUPPORTED, BUSY, x -> x.remove(AT_QUOTA, 30));
        EDGES.refused(UNSUPPORTED, BUSY, x -> x.remove(AT_QUOTA, 31));
        EDGES.taken(21, EdgesTest::quotaAbove, x -> x.remove(AT_QUOTA, 30));
        EDGES.refused(UNSUPPORTED, ONE_KEY, x -> x.remove(0, 20));
        EDGES.refused(UNSUPPORTED, ONE_KEY, x -> x.remove(0, 21));
        EDGES.refused(UNSUPPORTED, TWELVE_PAGES, x -> x.remove(0, 33));
        EDGES.refused(UNSUPPORTED, TWELVE_PAGES, x -> x.remove(0, 63));
        EDGES.taken(51, TWELVE_PAGES, x -> x.remove(0, 32));
    }

    private static void removeNothing() {
        CHECK.promise(7, "remove");
        // no version; none by it or a committed one; the latest one has no value
        EDGES.refused(NO_ELEMENT, OWNED, x -> x.remove(0, 0));
        EDGES.refused(NO_ELEMENT, BUSY, x -> x.remove(LIVE, 51));
        EDGES.refused(NO_ELEMENT, EdgesTest::removed, x -> x.remove(0, 5));
        EDGES.refused(NO_ELEMENT, EdgesTest::removedAndCommitted, x -> x.remove(1, 5));
        EDGES.taken(4, EdgesTest::removedAndPut, x -> x.remove(0, 5));
    }

    private static RiptideLedger removed() {
        RiptideLedger x = Scenes.filled(5);
        x.remove(0, 5);
        return x;
    }

    private static RiptideLedger removedAndCommitted() {
        RiptideLedger x = removed();
        x.commit(0);
        Scenes.own(x, 0);
        return x;
    }

    private static RiptideLedger removedAndPut() {
        RiptideLedger x = removed();
        x.put(0, 5, 0);
        return x;
    }

    private static void read() {
        CHECK.promise(8, "read");
        noSuchTransaction((x, number) -> x.read(number, 20));
        noSuchTransaction((x, number) -> x.read(number, -1));
        for (int key : NO_KEYS) {
            EDGES.refused(ARGUMENT, BUSY, x -> x.read(LIVE, key));
            EDGES.refused(ARGUMENT, BUSY, x -> x.read(PROMISED, key));
            EDGES.refused(ARGUMENT, REDOING, x -> x.read(LIVE, key));
        }
        EDGES.taken(0, () -> Scenes.filled(0), x -> x.read(0, 0));
        EDGES.taken(63, () -> Scenes.filled(63), x -> x.read(0, 63));
        for (int number : new int[] {LOST, PROMISED, WAITING, COMMITTED, ABORTED, RINGED}) {
            EDGES.refused(STATE, BUSY, x -> x.read(number, 60));
        }
        for (Supplier<RiptideLedger> scene : DOWN) {
            EDGES.refused(STATE, scene, x -> x.read(LIVE, 50));
            EDGES.refused(STATE, scene, x -> x.read(LIVE, 0));
        }
        EDGES.refused(UNSUPPORTED, BUSY, x -> x.read(LIVE, 40));
        EDGES.refused(UNSUPPORTED, BUSY, x -> x.read(LIVE, 49));
        EDGES.refused(UNSUPPORTED, BUSY, x -> x.read(LIVE, 57));
        EDGES.refused(UNSUPPORTED, BUSY, x -> x.read(RING_FIRST, 0));
        EDGES.refused(UNSUPPORTED, BUSY, x -> x.read(EIGHT_LOCKS, 10));
        EDGES.taken(501, BUSY, x -> x.read(LIVE, 50));
        // a shared lock is enough
        EDGES.taken(0, BUSY, x -> x.read(EIGHT_LOCKS, 0));
        EDGES.refused(NO_ELEMENT, BUSY, x -> x.read(LIVE, 55));
        EDGES.refused(NO_ELEMENT, BUSY, x -> x.read(LIVE, 56));
        EDGES.refused(NO_ELEMENT, BUSY, x -> x.read(EIGHT_LOCKS, 1));
        EDGES.refused(NO_ELEMENT, BUSY, x -> x.read(EIGHT_LOCKS, 9));
        // a quota does not hinder it, nor a page without room
        EDGES.taken(301, BUSY, x -> x.read(AT_QUOTA, 30));
        EDGES.taken(20, ONE_KEY, x -> x.read(0, 20));
    }

    private static void commit() {
        CHECK.promise(9, "commit");
        noSuchTransaction((x, number) -> x.commit(number));
        for (int number : new int[] {LOST, PROMISED, WAITING, COMMITTED, ABORTED, RINGED}) {
            EDGES.refused(STATE, BUSY, x -> x.commit(number));
        }
        for (Supplier<RiptideLedger> scene : DOWN) {
            EDGES.refused(STATE, scene, x -> x.commit(LIVE));
            EDGES.refused(STATE, scene, x -> x.commit(PROMISED));
        }
        EDGES.taken(20, BUSY, x -> x.commit(LIVE));
        EDGES.taken(20, BUSY, x -> x.commit(EIGHT_LOCKS));
        EDGES.taken(1, () -> Scenes.with(60), x -> x.commit(59));
    }

    private static void abort() {
        CHECK.promise(10, "abort");
        noSuchTransaction((x, number) -> x.abort(number));
        for (int number : new int[] {LOST, PROMISED, COMMITTED, ABORTED, RINGED}) {
            EDGES.refused(STATE, BUSY, x -> x.abort(number));
        }
        for (Supplier<RiptideLedger> scene : DOWN) {
            EDGES.refused(STATE, scene, x -> x.abort(LIVE));
            EDGES.refused(STATE, scene, x -> x.abort(WAITING));
        }
        EDGES.taken(1, BUSY, x -> x.abort(LIVE));
        EDGES.taken(0, BUSY, x -> x.abort(WAITING));
        EDGES.taken(0, BUSY, x -> x.abort(RING_FIRST));
    }

    private static void stateOf() {
        CHECK.promise(11, "stateOf");
        noSuchTransaction((x, number) -> x.stateOf(number));
        String due = "xplwcaldll";
        String behindCrash = "xpxxpaxdxx";
        for (int number = 0; number < COUNT; number++) {
            int given = number;
            EDGES.taken(due.charAt(number), BUSY, x -> x.stateOf(given));
            EDGES.taken(behindCrash.charAt(number), ANALYSING, x -> x.stateOf(given));
        }
        EDGES.taken('l', SIXTY, x -> x.stateOf(59));
    }

    private static void setQuota() {
        CHECK.promise(14, "setQuota");
        for (Supplier<RiptideLedger> scene : ANY) {
            EDGES.refused(ARGUMENT, scene, x -> x.setQuota(-1, 50));
            EDGES.refused(ARGUMENT, scene, x -> x.setQuota(4, 50));
            EDGES.refused(ARGUMENT, scene, x -> x.setQuota(0, -1));
            EDGES.refused(ARGUMENT, scene, x -> x.setQuota(3, 100));
            EDGES.taken(99, scene, x -> x.setQuota(0, 0));
            EDGES.taken(99, scene, x -> x.setQuota(0, 99));
        }
        for (int far : FAR) {
            EDGES.refused(ARGUMENT, BUSY, x -> x.setQuota(far, 5));
            EDGES.refused(ARGUMENT, BUSY, x -> x.setQuota(2, far));
        }
        EDGES.taken(1, BUSY, x -> x.setQuota(3, 1));
        EDGES.taken(1, UNDOING, x -> x.setQuota(3, 99));
    }

    private static void versionsOf() {
        CHECK.promise(15, "versionsOf");
        for (Supplier<RiptideLedger> scene : ANY) {
            for (int user : new int[] {Integer.MIN_VALUE, -1, 4, Integer.MAX_VALUE}) {
                EDGES.refused(ARGUMENT, scene, x -> x.versionsOf(user));
            }
        }
        EDGES.taken(0, BUSY, x -> x.versionsOf(0));
        EDGES.taken(11, BUSY, x -> x.versionsOf(1));
        EDGES.taken(1, BUSY, x -> x.versionsOf(3));
        EDGES.taken(4, ANALYSING, x -> x.versionsOf(1));
        EDGES.taken(11, REDOING, x -> x.versionsOf(1));
        EDGES.taken(0, REDOING, x -> x.versionsOf(3));
    }

    private static void snapshot() {
        CHECK.promise(16, "snapshot");
        for (Supplier<RiptideLedger> scene : DOWN) {
            EDGES.refused(STATE, scene, x -> x.snapshot());
        }
        EDGES.taken(3, BUSY, x -> x.snapshot());
        EDGES.taken(3, () -> Scenes.recovered(Scenes.undoing()), x -> x.snapshot());
        EDGES.refused(STATE, SIX_KEPT, x -> x.snapshot());
        EDGES.taken(5, () -> Scenes.kept(5, 0), x -> x.snapshot());
        EDGES.taken(6, SIX_KEPT, x -> x.drop(0) == 5 ? x.snapshot() : -1);
        EDGES.taken(6, SIX_KEPT, x -> x.drop(5) == 5 ? x.snapshot() : -1);
    }

    private static void readAt() {
        CHECK.promise(17, "readAt");
        for (int number : new int[] {Integer.MIN_VALUE, -1, 0, 3, 6, Integer.MAX_VALUE}) {
            EDGES.refused(NO_SUCH, BUSY, x -> x.readAt(number, 0));
            EDGES.refused(NO_SUCH, BUSY, x -> x.readAt(number, 64));
        }
        // behind a crash no snapshot is kept, and this comes first
        for (Supplier<RiptideLedger> scene : DOWN) {
            EDGES.refused(NO_SUCH, scene, x -> x.readAt(2, 0));
            EDGES.refused(NO_SUCH, scene, x -> x.readAt(2, 64));
        }
        EDGES.refused(NO_SUCH, () -> Scenes.recovered(Scenes.undoing()), x -> x.readAt(2, 0));
        for (int key : NO_KEYS) {
            EDGES.refused(ARGUMENT, BUSY, x -> x.readAt(2, key));
            EDGES.refused(ARGUMENT, BUSY, x -> x.readAt(1, key));
        }
        EDGES.taken(0, BUSY, x -> x.readAt(2, 0));
        EDGES.taken(500, BUSY, x -> x.readAt(2, 50));
        EDGES.refused(NO_ELEMENT, BUSY, x -> x.readAt(1, 0));
        EDGES.refused(NO_ELEMENT, BUSY, x -> x.readAt(2, 1));
        EDGES.refused(NO_ELEMENT, BUSY, x -> x.readAt(2, 63));
        EDGES.taken(5, SIX_KEPT, x -> x.readAt(0, 5));
        EDGES.taken(5, SIX_KEPT, x -> x.readAt(5, 5));
        EDGES.refused(NO_SUCH, SIX_KEPT, x -> x.readAt(6, 5));
    }

    private static void drop() {
        CHECK.promise(18, "drop");
        for (int number : new int[] {Integer.MIN_VALUE, -1, 0, 3, 6, Integer.MAX_VALUE}) {
            EDGES.refused(NO_SUCH, BUSY, x -> x.drop(number));
        }
        for (Supplier<RiptideLedger> scene : DOWN) {
            for (int number = 0; number < 4; number++) {
                int given = number;
                EDGES.refused(NO_SUCH, scene, x -> x.drop(given));
            }
        }
        EDGES.taken(1, BUSY, x -> x.drop(1));
        EDGES.taken(1, BUSY, x -> x.drop(2));
        EDGES.taken(0, BUSY, x -> x.drop(1) + x.drop(2) - 1);
        EDGES.taken(5, SIX_KEPT, x -> x.drop(5));
        EDGES.refused(NO_SUCH, SIX_KEPT, x -> x.drop(6));
    }

    private static void cleanAndMark() {
        for (Supplier<RiptideLedger> scene : DOWN) {
            CHECK.promise(19, "clean");
            EDGES.refused(STATE, scene, x -> x.clean());
            CHECK.promise(23, "mark");
            EDGES.refused(STATE, scene, x -> x.mark());
        }
        CHECK.promise(19, "clean");
        EDGES.taken(0, NEW, x -> x.clean());
        // the value of the key 1, and then its removal, though a snapshot sees it
        EDGES.taken(2, BUSY, x -> x.clean());
        CHECK.promise(23, "mark");
        EDGES.taken(1, NEW, x -> x.mark());
        EDGES.taken(20, BUSY, x -> x.mark());
        EDGES.taken(24, () -> Scenes.recovered(Scenes.undoing()), x -> x.mark());
    }

    private static void value() {
        CHECK.promise(20, "value");
        for (Supplier<RiptideLedger> scene : ANY) {
            for (int key : NO_KEYS) {
                EDGES.refused(ARGUMENT, scene, x -> x.value(key));
            }
        }
        for (Supplier<RiptideLedger> scene : DOWN) {
            EDGES.refused(STATE, scene, x -> x.value(0));
            EDGES.refused(STATE, scene, x -> x.value(63));
        }
        EDGES.taken(0, BUSY, x -> x.value(0));
        EDGES.taken(500, BUSY, x -> x.value(50));
        EDGES.taken(63, () -> committed(63), x -> x.value(63));
        EDGES.refused(NO_ELEMENT, BUSY, x -> x.value(1));
        EDGES.refused(NO_ELEMENT, BUSY, x -> x.value(63));
        EDGES.refused(NO_ELEMENT, NEW, x -> x.value(0));
        EDGES.refused(NO_ELEMENT, () -> Scenes.filled(5), x -> x.value(5));
        EDGES.taken(5, () -> committed(5), x -> x.value(5));
    }

    private static RiptideLedger committed(int key) {
        RiptideLedger x = Scenes.filled(key);
        x.commit(0);
        return x;
    }

    private static void valueByReplay() {
        CHECK.promise(21, "valueByReplay");
        for (Supplier<RiptideLedger> scene : ANY) {
            for (int key : NO_KEYS) {
                EDGES.refused(ARGUMENT, scene, x -> x.valueByReplay(key));
            }
        }
        for (Supplier<RiptideLedger> scene : DOWN) {
            EDGES.refused(STATE, scene, x -> x.valueByReplay(0));
            EDGES.refused(STATE, scene, x -> x.valueByReplay(63));
        }
        EDGES.taken(0, BUSY, x -> x.valueByReplay(0));
        EDGES.taken(500, BUSY, x -> x.valueByReplay(50));
        EDGES.taken(63, () -> committed(63), x -> x.valueByReplay(63));
        EDGES.refused(NO_ELEMENT, BUSY, x -> x.valueByReplay(1));
        EDGES.refused(NO_ELEMENT, BUSY, x -> x.valueByReplay(63));
        EDGES.refused(NO_ELEMENT, NEW, x -> x.valueByReplay(0));
        EDGES.refused(NO_ELEMENT, () -> Scenes.filled(5), x -> x.valueByReplay(5));
        EDGES.taken(5, () -> committed(5), x -> x.valueByReplay(5));
    }

    /** The call, with a record, is refused for each number of a record that there is not. */
    private static void noSuchRecord(TransactionCall call) {
        EDGES.refused(NO_SUCH, NEW, x -> call.on(x, 0));
        EDGES.refused(NO_SUCH, NEW, x -> call.on(x, 1));
        EDGES.refused(NO_SUCH, BUSY, x -> call.on(x, 0));
        EDGES.refused(NO_SUCH, BUSY, x -> call.on(x, 20));
        EDGES.refused(NO_SUCH, ANALYSING, x -> call.on(x, 20));
        EDGES.refused(NO_SUCH, UNDOING, x -> call.on(x, 21));
        for (int far : FAR) {
            EDGES.refused(NO_SUCH, BUSY, x -> call.on(x, far));
        }
    }

    private static void kindAt() {
        CHECK.promise(26, "kindAt");
        noSuchRecord((x, number) -> x.kindAt(number));
        EDGES.taken('i', BUSY, x -> x.kindAt(1));
        EDGES.taken('i', BUSY, x -> x.kindAt(19));
        EDGES.taken('u', UNDOING, x -> x.kindAt(20));
    }

    /** A record of each kind: 1 'i', 2 's' behind 6, and so on. */
    private static RiptideLedger eachKind() {
        RiptideLedger x = Scenes.filled(20, 20, 20, 20, 20, 30, 40);
        x.commit(0);
        x.clean();
        x.mark();
        Scenes.own(x, 0);
        x.put(1, 50, 5);
        x.abort(1);
        return x;
    }

    private static void transactionAt() {
        CHECK.promise(27, "transactionAt");
        noSuchRecord((x, number) -> x.transactionAt(number));
        CHECK.dueText("iiiiiisicggggkiua", kinds(eachKind()));
        int[] due = {0, 0, 0, 0, 0, 0, -1, 0, 0, -1, -1, -1, -1, -1, 1, 1, 1};
        for (int number = 1; number <= due.length; number++) {
            int given = number;
            if (due[number - 1] < 0) {
                EDGES.refused(NO_ELEMENT, EACH_KIND, x -> x.transactionAt(given));
            } else {
                EDGES.taken(due[number - 1], EACH_KIND, x -> x.transactionAt(given));
            }
        }
    }

    private static final Supplier<RiptideLedger> EACH_KIND = EdgesTest::eachKind;

    private static String kinds(RiptideLedger x) {
        StringBuilder kinds = new StringBuilder();
        for (int number = 1; number <= x.logLength(); number++) {
            kinds.append(x.kindAt(number));
        }
        return kinds.toString();
    }

    private static void pageAt() {
        CHECK.promise(28, "pageAt");
        noSuchRecord((x, number) -> x.pageAt(number));
        int[] due = {0, 0, 0, 0, 0, 0, 0, 1, -1, 0, 0, 0, 0, -1, 1, 1, -1};
        for (int number = 1; number <= due.length; number++) {
            int given = number;
            if (due[number - 1] < 0) {
                EDGES.refused(NO_ELEMENT, EACH_KIND, x -> x.pageAt(given));
            } else {
                EDGES.taken(due[number - 1], EACH_KIND, x -> x.pageAt(given));
            }
        }
    }

    private static void writePage() {
        CHECK.promise(29, "writePage");
        noSuchPage(NO_SUCH, (x, page) -> x.writePage(page));
        EDGES.refused(STATE, NEW, x -> x.writePage(0));
        EDGES.refused(STATE, BUSY, x -> x.writePage(0));
        EDGES.refused(STATE, ANALYSING, x -> x.writePage(0));
        EDGES.refused(STATE, REDOING, x -> x.writePage(0));
        EDGES.refused(UNSUPPORTED, BUSY, x -> x.writePage(2));
        EDGES.refused(UNSUPPORTED, UNDOING, x -> x.writePage(2));
        EDGES.taken(12, BUSY, x -> x.writePage(1));
        EDGES.taken(12, REDOING, x -> x.writePage(1));
        EDGES.taken(15, REDOING, x -> x.writePage(2));
        EDGES.taken(19, BUSY, x -> x.force() == 5 ? x.writePage(2) : -1);
        // the last record that is durable is that of the stamp; then the one before it
        EDGES.taken(1, () -> putAndForced(1, 0), x -> x.writePage(0));
        EDGES.refused(UNSUPPORTED, () -> putAndForced(0, 1), x -> x.writePage(0));
        EDGES.refused(UNSUPPORTED, () -> putAndForced(1, 1), x -> x.writePage(0));
        EDGES.taken(49, () -> Scenes.filledUp(12, 5), x -> x.force() == 49 ? x.writePage(11) : -1);
    }

    /** Puts so many versions, makes them durable, and puts so many more. */
    private static RiptideLedger putAndForced(int before, int behind) {
        RiptideLedger x = Scenes.owned();
        for (int count = 0; count < before; count++) {
            x.put(0, count, 1);
        }
        x.force();
        for (int count = 0; count < behind; count++) {
            x.put(0, count, 1);
        }
        return x;
    }

    private static void isDirty() {
        CHECK.promise(30, "isDirty");
        noSuchPage(NO_SUCH, (x, page) -> x.isDirty(page));
        EDGES.taken(false, NEW, x -> x.isDirty(0));
        EDGES.taken(false, BUSY, x -> x.isDirty(0));
        EDGES.taken(true, BUSY, x -> x.isDirty(1));
        EDGES.taken(true, BUSY, x -> x.isDirty(2));
        EDGES.taken(false, ANALYSING, x -> x.isDirty(0));
        EDGES.taken(true, REDOING, x -> x.isDirty(2));
        EDGES.taken(true, TWELVE_PAGES, x -> x.isDirty(11));
    }

    private static void firstDirty() {
        CHECK.promise(31, "firstDirty");
        noSuchPage(NO_SUCH, (x, page) -> x.firstDirty(page));
        EDGES.refused(STATE, NEW, x -> x.firstDirty(0));
        EDGES.refused(STATE, BUSY, x -> x.firstDirty(0));
        EDGES.refused(STATE, ANALYSING, x -> x.firstDirty(0));
        EDGES.taken(7, BUSY, x -> x.firstDirty(1));
        EDGES.taken(12, BUSY, x -> x.firstDirty(2));
        EDGES.taken(7, REDOING, x -> x.firstDirty(1));
        EDGES.taken(47, TWELVE_PAGES, x -> x.firstDirty(11));
    }

    private static void stampOf() {
        CHECK.promise(32, "stampOf");
        noSuchPage(NO_SUCH, (x, page) -> x.stampOf(page));
        EDGES.taken(0, NEW, x -> x.stampOf(0));
        EDGES.taken(10, BUSY, x -> x.stampOf(0));
        EDGES.taken(19, BUSY, x -> x.stampOf(2));
        EDGES.taken(15, REDOING, x -> x.stampOf(2));
        EDGES.taken(50, TWELVE_PAGES, x -> x.stampOf(11));
    }

    private static void pageOf() {
        CHECK.promise(34, "pageOf");
        for (Supplier<RiptideLedger> scene : ANY) {
            for (int key : NO_KEYS) {
                EDGES.refused(ARGUMENT, scene, x -> x.pageOf(key));
            }
        }
        for (Supplier<RiptideLedger> scene : DOWN) {
            EDGES.refused(STATE, scene, x -> x.pageOf(0));
            EDGES.refused(STATE, scene, x -> x.pageOf(63));
        }
        EDGES.taken(0, BUSY, x -> x.pageOf(0));
        EDGES.taken(0, BUSY, x -> x.pageOf(10));
        EDGES.taken(1, BUSY, x -> x.pageOf(11));
        EDGES.taken(1, BUSY, x -> x.pageOf(29));
        EDGES.taken(2, BUSY, x -> x.pageOf(30));
        EDGES.taken(2, BUSY, x -> x.pageOf(63));
        EDGES.taken(10, TWELVE_PAGES, x -> x.pageOf(32));
        EDGES.taken(11, TWELVE_PAGES, x -> x.pageOf(33));
    }

    private static void lowOf() {
        CHECK.promise(35, "lowOf");
        noSuchPage(NO_SUCH, (x, page) -> x.lowOf(page));
        EDGES.taken(0, NEW, x -> x.lowOf(0));
        EDGES.taken(0, ANALYSING, x -> x.lowOf(0));
        EDGES.taken(11, BUSY, x -> x.lowOf(1));
        EDGES.taken(30, REDOING, x -> x.lowOf(2));
        EDGES.taken(33, TWELVE_PAGES, x -> x.lowOf(11));
    }

    private static void sizeOf() {
        CHECK.promise(36, "sizeOf");
        noSuchPage(NO_SUCH, (x, page) -> x.sizeOf(page));
        EDGES.taken(0, NEW, x -> x.sizeOf(0));
        EDGES.taken(4, ANALYSING, x -> x.sizeOf(0));
        EDGES.taken(3, BUSY, x -> x.sizeOf(1));
        EDGES.taken(6, BUSY, x -> x.sizeOf(2));
        EDGES.taken(6, TWELVE_PAGES, x -> x.sizeOf(11));
    }

    /** The call, with a page and an index, is refused for each that there is not; the page comes first. */
    private static void noSuchIndex(PlaceCall call) {
        noSuchPage(NO_SUCH, (x, page) -> call.on(x, page, 0));
        noSuchPage(NO_SUCH, (x, page) -> call.on(x, page, -1));
        for (int far : FAR) {
            EDGES.refused(NO_ELEMENT, BUSY, x -> call.on(x, 0, far));
            EDGES.refused(NO_ELEMENT, ANALYSING, x -> call.on(x, 0, far));
        }
        EDGES.refused(NO_ELEMENT, NEW, x -> call.on(x, 0, 0));
        for (int page = 0; page < 3; page++) {
            int given = page;
            int size = page == 0 ? 4 : page == 1 ? 3 : 6;
            EDGES.refused(NO_ELEMENT, BUSY, x -> call.on(x, given, -1));
            EDGES.refused(NO_ELEMENT, BUSY, x -> call.on(x, given, size));
        }
    }

    private interface PlaceCall {
        Object on(RiptideLedger x, int page, int index);
    }

    private static void versionAt() {
        CHECK.promise(37, "versionAt");
        noSuchIndex((x, page, index) -> x.versionAt(page, index));
        EDGES.taken(1, BUSY, x -> x.versionAt(0, 0));
        EDGES.taken(3, BUSY, x -> x.versionAt(0, 3));
        EDGES.taken(15, BUSY, x -> x.versionAt(2, 5));
        EDGES.taken(3, ANALYSING, x -> x.versionAt(0, 3));
    }

    private static void keyAt() {
        CHECK.promise(38, "keyAt");
        noSuchIndex((x, page, index) -> x.keyAt(page, index));
        EDGES.taken(0, BUSY, x -> x.keyAt(0, 0));
        EDGES.taken(10, BUSY, x -> x.keyAt(0, 3));
        EDGES.taken(50, BUSY, x -> x.keyAt(2, 5));
        EDGES.taken(10, ANALYSING, x -> x.keyAt(0, 3));
    }

    private static void valueAt() {
        CHECK.promise(39, "valueAt");
        noSuchIndex((x, page, index) -> x.valueAt(page, index));
        EDGES.taken(0, BUSY, x -> x.valueAt(0, 0));
        EDGES.taken(-1, BUSY, x -> x.valueAt(0, 2));
        EDGES.taken(501, BUSY, x -> x.valueAt(2, 5));
        EDGES.taken(100, ANALYSING, x -> x.valueAt(0, 3));
    }

    private static void crash() {
        CHECK.promise(40, "crash");
        noSuchPage(ARGUMENT, (x, page) -> x.crash(page));
        EDGES.refused(UNSUPPORTED, NEW, x -> x.crash(0));
        EDGES.refused(UNSUPPORTED, BUSY, x -> x.crash(0));
        EDGES.refused(UNSUPPORTED, BUSY, x -> x.crash(2));
        EDGES.refused(UNSUPPORTED, ANALYSING, x -> x.crash(0));
        EDGES.refused(UNSUPPORTED, REDOING, x -> x.crash(0));
        EDGES.refused(UNSUPPORTED, UNDOING, x -> x.crash(2));
        EDGES.taken(5, BUSY, x -> x.crash(1));
        EDGES.taken(5, BUSY, x -> x.crash(-1));
        EDGES.taken(0, NEW, x -> x.crash(-1));
        EDGES.taken(0, ANALYSING, x -> x.crash(-1));
        EDGES.taken(0, REDOING, x -> x.crash(2));
        EDGES.taken(1, UNDOING, x -> x.crash(1));
        EDGES.taken(0, () -> putAndForced(1, 0), x -> x.crash(0));
        EDGES.refused(UNSUPPORTED, () -> putAndForced(0, 1), x -> x.crash(0));
        EDGES.refused(UNSUPPORTED, () -> putAndForced(1, 1), x -> x.crash(0));
        EDGES.taken(0, () -> Scenes.filledUp(12, 5), x -> x.force() == 49 ? x.crash(11) : -1);
    }

    private static void recover() {
        CHECK.promise(41, "recover");
        for (Supplier<RiptideLedger> scene : ANY) {
            for (int steps : new int[] {Integer.MIN_VALUE, -1, 0, 100, Integer.MAX_VALUE}) {
                EDGES.refused(ARGUMENT, scene, x -> x.recover(steps));
            }
        }
        EDGES.refused(STATE, NEW, x -> x.recover(1));
        EDGES.refused(STATE, BUSY, x -> x.recover(1));
        EDGES.refused(STATE, BUSY, x -> x.recover(99));
        EDGES.refused(STATE, () -> Scenes.recovered(Scenes.undoing()), x -> x.recover(1));
        EDGES.taken(1, ANALYSING, x -> x.recover(1));
        // 18 of the first phase, 19 of the second, two versions and two records 'a'
        EDGES.taken(18 + 19 + 4, ANALYSING, x -> x.recover(99));
        EDGES.taken("40d", ANALYSING, x -> x.recover(1) + x.recover(39) + "" + (x.recover(2) == 1 ? x.phase() : '?'));
    }

    private static void follow() {
        CHECK.promise(45, "follow");
        for (Supplier<RiptideLedger> scene : ANY) {
            for (int records : new int[] {Integer.MIN_VALUE, -1, 0, 100, Integer.MAX_VALUE}) {
                EDGES.refused(ARGUMENT, scene, x -> x.follow(records));
            }
            EDGES.taken(scene == NEW || scene == BUSY ? 0 : 1, scene, x -> x.follow(1));
            EDGES.taken(scene == NEW || scene == BUSY ? 0 : 5, scene, x -> x.follow(99));
        }
        EDGES.taken("99 1 0", EdgesTest::hundredRecords, x -> x.follow(99) + " " + x.follow(99) + " " + x.follow(99));
    }

    private static RiptideLedger hundredRecords() {
        RiptideLedger x = new RiptideLedger();
        for (int count = 0; count < 100; count++) {
            x.mark();
        }
        x.force();
        return x;
    }

    private static void pin() {
        CHECK.promise(47, "pin");
        EDGES.refused(STATE, SIX_KEPT, x -> x.pin());
        EDGES.taken(5, () -> Scenes.kept(0, 5), x -> x.pin());
        EDGES.taken(0, NEW, x -> x.pin());
        for (Supplier<RiptideLedger> scene : DOWN) {
            EDGES.taken(2, scene, x -> x.pin());
        }
    }

    private static void readPinned() {
        CHECK.promise(48, "readPinned");
        for (Supplier<RiptideLedger> scene : ANY) {
            int pins = scene == NEW ? 0 : 2;
            EDGES.refused(NO_SUCH, scene, x -> x.readPinned(-2, 0));
            EDGES.refused(NO_SUCH, scene, x -> x.readPinned(-2, 64));
            EDGES.refused(NO_SUCH, scene, x -> x.readPinned(pins, 0));
            EDGES.refused(NO_SUCH, scene, x -> x.readPinned(pins, -1));
            for (int key : NO_KEYS) {
                EDGES.refused(ARGUMENT, scene, x -> x.readPinned(-1, key));
            }
        }
        for (int key : NO_KEYS) {
            EDGES.refused(ARGUMENT, BUSY, x -> x.readPinned(0, key));
            EDGES.refused(ARGUMENT, BUSY, x -> x.readPinned(1, key));
        }
        for (int far : FAR) {
            EDGES.refused(NO_SUCH, SIX_KEPT, x -> x.readPinned(far, 5));
        }
        EDGES.refused(NO_SUCH, SIX_KEPT, x -> x.readPinned(6, 5));
        EDGES.refused(NO_ELEMENT, SIX_KEPT, x -> x.readPinned(5, 5));
        EDGES.refused(NO_ELEMENT, NEW, x -> x.readPinned(-1, 0));
        EDGES.refused(NO_ELEMENT, BUSY, x -> x.readPinned(0, 0));
        EDGES.refused(NO_ELEMENT, BUSY, x -> x.readPinned(1, 1));
        EDGES.refused(NO_ELEMENT, BUSY, x -> x.readPinned(-1, 63));
        EDGES.taken(0, BUSY, x -> x.readPinned(1, 0));
        EDGES.taken(500, BUSY, x -> x.readPinned(-1, 50));
        EDGES.taken(500, UNDOING, x -> x.readPinned(1, 50));
    }
}
