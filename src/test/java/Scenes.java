/** Stores in states that stand at the boundaries of the document, each made anew at every call. */
final class Scenes {
    // The transactions of busy(), one in each state, and some at boundaries of their own.
    static final int LOST = 0;
    static final int PROMISED = 1;
    static final int LIVE = 2;
    static final int WAITING = 3;
    static final int COMMITTED = 4;
    static final int ABORTED = 5;
    static final int RING_FIRST = 6;
    static final int RINGED = 7;
    static final int EIGHT_LOCKS = 8;
    static final int AT_QUOTA = 9;
    static final int COUNT = 10;

    private Scenes() { }

    /** A new store with so many transactions of user 0, each live. */
    static RiptideLedger with(int transactions) {
        RiptideLedger x = new RiptideLedger();
        for (int count = 0; count < transactions; count++) {
            x.begin(0);
        }
        return x;
    }

    /** A store whose transaction 0, of user 0, has an exclusive lock on all keys. */
    static RiptideLedger owned() {
        RiptideLedger x = with(1);
        x.lock(0, 0, 63, true);
        return x;
    }

    /** As owned, with a version of each of these keys, in their order; the value is the key. */
    static RiptideLedger filled(int... keys) {
        RiptideLedger x = owned();
        for (int key : keys) {
            x.put(0, key, key);
        }
        return x;
    }

    /** Begins a transaction of a user and gives it an exclusive lock on all keys. */
    static int own(RiptideLedger x, int user) {
        int transaction = x.begin(user);
        x.lock(transaction, 0, 63, true);
        return transaction;
    }

    static RiptideLedger recovered(RiptideLedger x) {
        for (int round = 0; round < 20 && x.phase() != 'd'; round++) {
            x.recover(99);
        }
        return x;
    }

    /**
     * Up, with 19 records, of which 14 are durable. The page 0, of the keys from 0, has 4 versions and is clean; the
     * page 1, from 11, has 3, is dirty, and could be written; the page 2, from 30, has 6, is dirty, and has a stamp
     * that is not durable. The snapshot 0 was dropped, 1 sees nothing, 2 sees what PROMISED put; the pin 0 sees
     * nothing, 1 what PROMISED put. LIVE has 50 to 55 for itself and shares 56; WAITING has 60 and waits for 52 to
     * 60; EIGHT_LOCKS shares 0 to 9; AT_QUOTA has 30 to 49, and its user has the one version that is his quota.
     */
    static RiptideLedger busy() {
        RiptideLedger x = new RiptideLedger();
        x.begin(0);
        x.crash(-1);
        x.snapshot();
        x.drop(0);
        x.snapshot();
        own(x, 1);
        for (int key : new int[] {0, 1, 10, 11, 12, 20, 30}) {
            x.put(PROMISED, key, key * 10);
        }
        x.put(PROMISED, 40, 400);
        x.remove(PROMISED, 1);
        x.put(PROMISED, 50, 500);
        x.put(PROMISED, 35, 350);
        x.commit(PROMISED);
        x.force();
        x.writePage(0);
        x.pin();
        x.follow(99);
        x.pin();
        x.snapshot();
        for (int number = LIVE; number < COUNT; number++) {
            x.begin(number == AT_QUOTA ? 3 : number == LIVE ? 2 : 0);
        }
        x.lock(LIVE, 50, 55, true);
        x.lock(LIVE, 56, 56, false);
        x.put(LIVE, 50, 501);
        x.lock(WAITING, 60, 60, true);
        x.lock(WAITING, 52, 60, false);
        x.commit(COMMITTED);
        x.abort(ABORTED);
        x.lock(RING_FIRST, 61, 61, true);
        x.lock(RINGED, 62, 62, true);
        x.lock(RING_FIRST, 62, 62, true);
        x.lock(RINGED, 61, 61, true);
        for (int count = 0; count < 8; count++) {
            x.lock(EIGHT_LOCKS, 0, 9, false);
        }
        x.lock(AT_QUOTA, 30, 49, true);
        x.put(AT_QUOTA, 30, 301);
        x.setQuota(3, 1);
        return x;
    }

    /** As busy, but behind a crash with all records durable and the page 1 torn; one step of the first phase is made. */
    static RiptideLedger analysing() {
        RiptideLedger x = busy();
        x.force();
        x.crash(1);
        x.recover(1);
        return x;
    }

    /** As analysing, with 15 of the 19 steps of the second phase made. */
    static RiptideLedger redoing() {
        RiptideLedger x = analysing();
        x.recover(18 + 15);
        return x;
    }

    /** As redoing, in the third phase: the version 19 is undone, 15 is not yet. */
    static RiptideLedger undoing() {
        RiptideLedger x = redoing();
        x.recover(4 + 1);
        return x;
    }

    /** One page with 6 versions of the key 20; transaction 0 has all keys. */
    static RiptideLedger oneKey() {
        return filled(20, 20, 20, 20, 20, 20);
    }

    /** So many pages; the keys were put from 0 on, so each has 3 versions, but the last one, which has so many. */
    static RiptideLedger filledUp(int pages, int lastSize) {
        RiptideLedger x = owned();
        for (int key = 0; key < 3 * (pages - 1) + lastSize; key++) {
            x.put(0, key, key);
        }
        return x;
    }

    /** 12 pages, the last one with 6 versions of the keys 33 to 38, the others with 3 each. */
    static RiptideLedger twelvePages() {
        return filledUp(12, 6);
    }

    /** So many snapshots are kept, and there are so many pins. */
    static RiptideLedger kept(int snapshots, int pins) {
        RiptideLedger x = filled(5);
        x.commit(0);
        x.force();
        for (int count = 0; count < snapshots; count++) {
            x.snapshot();
        }
        for (int count = 0; count < pins; count++) {
            x.pin();
        }
        return x;
    }
}
