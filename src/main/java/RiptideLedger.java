import java.util.ArrayList;
import java.util.Arrays;
import java.util.NoSuchElementException;

/**
 * A storage engine: keys with versions in pages that split, a log, a cache and a disk, transactions with locks on
 * ranges of keys, snapshots, a cleaner, crashes, recovery and a replica that follows the log.
 */
public final class RiptideLedger {
    private static final int USERS = 4;
    private static final int KEYS = 64;
    private static final int VALUES = 10000;
    private static final int QUOTA_MOST = 99;
    private static final int TRANSACTIONS = 60;
    private static final int LOCKS = 8;
    private static final int PAGES = 12;
    private static final int PAGE_ROOM = 6;
    private static final int SPLIT_INDEX = 3;
    private static final int SNAPSHOTS = 6;
    private static final int PINS = 6;
    private static final int STEPS_MOST = 99;
    private static final int NO_VALUE = -1;
    private static final int NOBODY = -1;

    // Far above what 512 calls can write: it only keeps later calls, whose answers are free, from filling the room.
    private static final int LOG_LIMIT = 60000;

    private final Journal journal;
    private final Storage storage;
    private final LockTable table;
    private final Snapshots snapshots;
    private final Recovery recovery;
    private final Replica replica;
    private final int[] quotas;
    private final int[] replayed;
    private int undoneVersions;
    private int redoneChanges;

    /** Creates an empty store, which is up. */
    public RiptideLedger() {
        journal = new Journal();
        storage = new Storage(journal);
        table = new LockTable();
        snapshots = new Snapshots();
        recovery = new Recovery();
        replica = new Replica();
        quotas = new int[USERS];
        replayed = new int[KEYS];
        Arrays.fill(quotas, QUOTA_MOST);
    }

    // ---- transactions and locks

    /** Begins a transaction of a user and returns its number. */
    public int begin(int user) throws IllegalArgumentException, IllegalStateException {
        checkUser(user);
        checkUp();
        if (table.count() >= TRANSACTIONS) {
            throw new IllegalStateException("there are 60 transactions");
        }
        return table.add(user);
    }

    /** Asks for a lock on a range of keys: 'g' granted, 'w' the transaction waits, 'd' it has been aborted. */
    public char lock(int transaction, int low, int high, boolean isExclusive)
            throws IndexOutOfBoundsException, IllegalArgumentException, IllegalStateException {
        Transaction asker = known(transaction);
        checkKey(low);
        checkKey(high);
        if (low > high) {
            throw new IllegalArgumentException("the lowest key is greater than the highest one");
        }
        checkUp();
        checkLive(asker);
        if (asker.lockCount >= LOCKS) {
            throw new IllegalStateException("the transaction has 8 locks");
        }
        asker.want(low, high, isExclusive);
        if (table.hinderersOf(asker) == 0L) {
            asker.takeWanted();
        } else {
            table.startWaiting(asker);
            breakRings(asker);
        }
        return asker.state == 'l' ? 'g' : asker.state;
    }

    /** Returns how many locks a transaction has. */
    public int locksOf(int transaction) throws IndexOutOfBoundsException {
        return known(transaction).lockCount;
    }

    /** Returns the lowest-numbered transaction for which a transaction waits. */
    public int waitsFor(int transaction) throws IndexOutOfBoundsException, NoSuchElementException {
        Transaction asker = known(transaction);
        if (asker.state != 'w') {
            throw new NoSuchElementException("the transaction does not wait");
        }
        return lowestOf(table.hinderersOf(asker));
    }

    /** Puts a value for a key and returns the number of the version. */
    public int put(int transaction, int key, int value)
            throws IndexOutOfBoundsException, IllegalArgumentException, IllegalStateException,
            UnsupportedOperationException {
        Transaction writer = known(transaction);
        checkKey(key);
        if (value < 0 || value >= VALUES) {
            throw new IllegalArgumentException("the value is out of range");
        }
        checkWriter(writer, key);
        return addVersion(writer, key, value);
    }

    /** Removes the value of a key and returns the number of the version that tells so. */
    public int remove(int transaction, int key)
            throws IndexOutOfBoundsException, IllegalArgumentException, IllegalStateException,
            UnsupportedOperationException, NoSuchElementException {
        Transaction writer = known(transaction);
        checkKey(key);
        checkWriter(writer, key);
        requireValue(latestSeen(key, journal.count(), transaction));
        return addVersion(writer, key, NO_VALUE);
    }

    /** Reads the value of a key in the latest version by this transaction or a committed one. */
    public int read(int transaction, int key)
            throws IndexOutOfBoundsException, IllegalArgumentException, IllegalStateException,
            UnsupportedOperationException, NoSuchElementException {
        Transaction reader = known(transaction);
        checkKey(key);
        checkUp();
        checkLive(reader);
        if (!reader.covers(key, false)) {
            throw new UnsupportedOperationException("no lock on the key");
        }
        return requireValue(latestSeen(key, journal.count(), transaction));
    }

    /** Commits a transaction and returns the number of the record. */
    public int commit(int transaction) throws IndexOutOfBoundsException, IllegalStateException {
        Transaction ending = known(transaction);
        checkUp();
        checkLive(ending);
        int number = journal.append(new Entry('c', transaction, NOBODY));
        table.end(ending, 'c', number);
        return number;
    }

    /** Aborts a transaction and returns how many of its versions were undone. */
    public int abort(int transaction) throws IndexOutOfBoundsException, IllegalStateException {
        Transaction ending = known(transaction);
        checkUp();
        if (!ending.isOpen()) {
            throw new IllegalStateException("the transaction neither is live nor waits");
        }
        return undoAndEnd(ending, 'a');
    }

    /** Returns the state of a transaction: one of l, w, c, p, a, d, x. */
    public char stateOf(int transaction) throws IndexOutOfBoundsException {
        Transaction asked = known(transaction);
        return isPromised(asked) ? 'p' : asked.state;
    }

    /** Returns how many transactions are promised. */
    public int promised() {
        int found = 0;
        for (int number = 0; number < table.count(); number++) {
            if (isPromised(table.find(number))) {
                found++;
            }
        }
        return found;
    }

    /** Returns how often a transaction that waited was granted its lock. */
    public long woken() {
        return table.grants;
    }

    // ---- quotas, snapshots, cleaning

    /** Sets the quota of a user and returns the one before. */
    public int setQuota(int user, int versions) throws IllegalArgumentException {
        checkUser(user);
        if (versions < 0 || versions > QUOTA_MOST) {
            throw new IllegalArgumentException("the quota is out of range");
        }
        int before = quotas[user];
        quotas[user] = versions;
        return before;
    }

    /** Returns how many versions by transactions of a user are in pages. */
    public int versionsOf(int user) throws IllegalArgumentException {
        checkUser(user);
        int found = 0;
        for (int number = 0; number < PAGES; number++) {
            found += countOf(storage.cached(number), user);
        }
        return found;
    }

    /** Takes a snapshot, which sees all that is committed now, and returns its number. */
    public int snapshot() throws IllegalStateException {
        checkUp();
        if (snapshots.count >= SNAPSHOTS) {
            throw new IllegalStateException("6 snapshots are kept");
        }
        return snapshots.take(journal.count());
    }

    /** Reads the value of a key that a snapshot sees. */
    public int readAt(int snapshot, int key)
            throws IndexOutOfBoundsException, IllegalArgumentException, IllegalStateException,
            NoSuchElementException {
        int place = keptSnapshot(snapshot);
        checkKey(key);
        checkUp();
        return requireValue(latestSeen(key, snapshots.momentAt(place), NOBODY));
    }

    /** Drops a snapshot and returns how many are kept. */
    public int drop(int snapshot) throws IndexOutOfBoundsException {
        snapshots.forget(keptSnapshot(snapshot));
        return snapshots.count;
    }

    /** Takes away versions that nobody needs and returns how many. */
    public int clean() throws IllegalStateException {
        checkUp();
        int taken = 0;
        for (int number = 0; number < PAGES; number++) {
            taken += cleanOne(number);
        }
        return taken;
    }

    /** Returns the value of a key in its latest committed version. */
    public int value(int key) throws IllegalArgumentException, IllegalStateException, NoSuchElementException {
        checkKey(key);
        checkUp();
        return requireValue(latestSeen(key, journal.count(), NOBODY));
    }

    /** Returns the same value, found by doing all committed work in the log again. */
    public int valueByReplay(int key)
            throws IllegalArgumentException, IllegalStateException, NoSuchElementException {
        checkKey(key);
        checkUp();
        replay(journal.count());
        return requireValue(replayed[key]);
    }

    // ---- log and pages

    /** Makes all records of the log durable and returns how many were not. */
    public int force() {
        return journal.makeDurable();
    }

    /** Writes a mark and returns the number of its record. */
    public int mark() throws IllegalStateException {
        checkUp();
        Entry entry = new Entry('k', NOBODY, NOBODY);
        entry.since = storage.dirtySinces();
        entry.alive = table.openWriters();
        return journal.append(entry);
    }

    /** Returns the number of records. */
    public int logLength() {
        return journal.count();
    }

    /** Returns the number of records that are durable. */
    public int durable() {
        return journal.durableCount;
    }

    /** Returns the kind of a record: one of i, s, u, g, c, a, k. */
    public char kindAt(int number) throws IndexOutOfBoundsException {
        return entryOf(number).kind;
    }

    /** Returns the transaction of a record. */
    public int transactionAt(int number) throws IndexOutOfBoundsException, NoSuchElementException {
        Entry entry = entryOf(number);
        if (entry.transaction == NOBODY) {
            throw new NoSuchElementException("the record has no transaction");
        }
        return entry.transaction;
    }

    /** Returns the page that a record changes, for 's' the one that is split. */
    public int pageAt(int number) throws IndexOutOfBoundsException, NoSuchElementException {
        Entry entry = entryOf(number);
        if (entry.page == NOBODY) {
            throw new NoSuchElementException("the record changes no page");
        }
        return entry.page;
    }

    /** Writes a page as it is in the cache and returns its stamp. */
    public int writePage(int page) throws IndexOutOfBoundsException, IllegalStateException,
            UnsupportedOperationException {
        Page written = dirtyPage(page);
        if (written.stamp > journal.durableCount) {
            throw new UnsupportedOperationException("the record of its stamp is not durable");
        }
        storage.writeOut(page);
        return written.stamp;
    }

    /** Returns whether a page is dirty. */
    public boolean isDirty(int page) throws IndexOutOfBoundsException {
        return cachedPage(page).since != 0;
    }

    /** Returns the record since which a page is dirty. */
    public int firstDirty(int page) throws IndexOutOfBoundsException, IllegalStateException {
        return dirtyPage(page).since;
    }

    /** Returns the stamp of a page, 0 if it was never changed. */
    public int stampOf(int page) throws IndexOutOfBoundsException {
        return cachedPage(page).stamp;
    }

    /** Returns how many pages there are in the cache. */
    public int pages() {
        return storage.cachedCount();
    }

    /** Returns the page of a key. */
    public int pageOf(int key) throws IllegalArgumentException, IllegalStateException {
        checkKey(key);
        checkUp();
        return storage.homeOf(key);
    }

    /** Returns the low key of a page. */
    public int lowOf(int page) throws IndexOutOfBoundsException {
        return cachedPage(page).low;
    }

    /** Returns how many versions a page has. */
    public int sizeOf(int page) throws IndexOutOfBoundsException {
        return cachedPage(page).size;
    }

    /** Returns the number of a version in a page. */
    public int versionAt(int page, int index) throws IndexOutOfBoundsException, NoSuchElementException {
        return versionIn(cachedPage(page), index);
    }

    /** Returns the key of a version in a page. */
    public int keyAt(int page, int index) throws IndexOutOfBoundsException, NoSuchElementException {
        return journal.keyOf(versionIn(cachedPage(page), index));
    }

    /** Returns the value of a version in a page, -1 if it has none. */
    public int valueAt(int page, int index) throws IndexOutOfBoundsException, NoSuchElementException {
        return journal.valueOf(versionIn(cachedPage(page), index));
    }

    // ---- crash, recovery, replica

    /** Lets the store crash and returns how many records of the log are lost. */
    public int crash(int torn) throws IllegalArgumentException, UnsupportedOperationException {
        if (torn != NOBODY) {
            checkCanTear(torn);
        }
        int lost = journal.loseUndurable();
        storage.loseCache(torn);
        table.loseAll(journal.durableCount);
        snapshots.forgetAll();
        recovery.start(journal.lastMark());
        settlePhase();
        return lost;
    }

    /** Makes steps of recovery until the store is up and returns how many were made. */
    public int recover(int steps) throws IllegalArgumentException, IllegalStateException {
        if (steps < 1 || steps > STEPS_MOST) {
            throw new IllegalArgumentException("the number of steps is out of range");
        }
        if (recovery.phase == 'd' || journal.isFull()) {
            throw new IllegalStateException("the store is up");
        }
        int made = 0;
        while (made < steps && recovery.phase != 'd') {
            makeStep();
            settlePhase();
            made++;
        }
        return made;
    }

    /** Returns the phase: 'a', 'r' or 'u' in recovery, 'd' if the store is up. */
    public char phase() {
        return recovery.phase;
    }

    /** Returns how many changes of pages were made again in all recoveries. */
    public int redone() {
        return redoneChanges;
    }

    /** Returns how many versions were undone, by aborts and in recoveries. */
    public int undone() {
        return undoneVersions;
    }

    /** Lets the replica follow the durable log and returns how many records it has followed by this. */
    public int follow(int records) throws IllegalArgumentException {
        if (records < 1 || records > STEPS_MOST) {
            throw new IllegalArgumentException("the number of records is out of range");
        }
        int followed = Math.min(records, journal.durableCount - replica.followed);
        replica.followed += followed;
        return followed;
    }

    /** Returns how many records the replica has followed. */
    public int replicaAt() {
        return replica.followed;
    }

    /** Pins what the replica sees now and returns the number of the pin. */
    public int pin() throws IllegalStateException {
        if (replica.pinCount >= PINS) {
            throw new IllegalStateException("there are 6 pins");
        }
        return replica.addPin();
    }

    /** Reads the value of a key on the replica, as a pin saw it or, for -1, as it is seen now. */
    public int readPinned(int pin, int key)
            throws IndexOutOfBoundsException, IllegalArgumentException, NoSuchElementException {
        if (pin < -1 || pin >= replica.pinCount) {
            throw new IndexOutOfBoundsException("no such pin");
        }
        checkKey(key);
        replay(replica.momentOf(pin));
        return requireValue(replayed[key]);
    }

    // ---- figures

    /** Returns how often a page was written. */
    public long pagesWritten() {
        return storage.writes;
    }

    /** Returns the share of the pages in the cache that are dirty. */
    public float dirtyShare() {
        int all = storage.cachedCount();
        return all == 0 ? 0.0f : (float) storage.dirtyCount() / (float) all;
    }

    /** Returns the mean number of versions of the pages in the cache. */
    public double meanSize() {
        int all = storage.cachedCount();
        return all == 0 ? 0.0 : (double) storage.versionCount() / (double) all;
    }

    /** Returns whether all is sound. */
    public boolean isSound() {
        boolean isUp = recovery.phase == 'd';
        for (int number = 0; number < PAGES; number++) {
            if (!storage.isSoundCached(number, isUp) || !storage.isSoundOnDisk(number)) {
                return false;
            }
        }
        return !isUp || isReplaySame();
    }

    // ---- tests of what a call is given

    private static void checkUser(int user) {
        if (user < 0 || user >= USERS) {
            throw new IllegalArgumentException("no such user");
        }
    }

    private static void checkKey(int key) {
        if (key < 0 || key >= KEYS) {
            throw new IllegalArgumentException("the key is out of range");
        }
    }

    private void checkUp() {
        if (recovery.phase != 'd' || journal.isFull()) {
            throw new IllegalStateException("the store is not up");
        }
    }

    private static void checkLive(Transaction asked) {
        if (asked.state != 'l') {
            throw new IllegalStateException("the transaction is not live");
        }
    }

    private void checkWriter(Transaction writer, int key) {
        checkUp();
        checkLive(writer);
        if (!writer.covers(key, true)) {
            throw new UnsupportedOperationException("no exclusive lock on the key");
        }
        if (versionsOf(writer.user) >= quotaOf(writer.user)) {
            throw new UnsupportedOperationException("the quota of the user is reached");
        }
        if (!storage.hasRoom(key)) {
            throw new UnsupportedOperationException("there is no room");
        }
    }

    private int quotaOf(int user) {
        return user < 0 || user >= USERS ? 0 : quotas[user];
    }

    private void checkCanTear(int number) {
        Page page = storage.cached(number);
        if (page == null) {
            throw new IllegalArgumentException("no such page");
        }
        if (page.since == 0 || page.stamp > journal.durableCount) {
            throw new UnsupportedOperationException("the page could not be written now");
        }
    }

    private Transaction known(int number) {
        Transaction found = table.find(number);
        if (found == null) {
            throw new IndexOutOfBoundsException("no such transaction");
        }
        return found;
    }

    private Entry entryOf(int number) {
        Entry found = journal.find(number);
        if (found == null) {
            throw new IndexOutOfBoundsException("no such record");
        }
        return found;
    }

    private Page cachedPage(int number) {
        Page found = storage.cached(number);
        if (found == null) {
            throw new IndexOutOfBoundsException("no such page");
        }
        return found;
    }

    private Page dirtyPage(int number) {
        Page found = cachedPage(number);
        if (found.since == 0) {
            throw new IllegalStateException("the page is not dirty");
        }
        return found;
    }

    private static int versionIn(Page page, int index) {
        int version = page.versionOn(index);
        if (version == 0) {
            throw new NoSuchElementException("no such index");
        }
        return version;
    }

    private int keptSnapshot(int number) {
        int place = snapshots.placeOf(number);
        if (place < 0) {
            throw new IndexOutOfBoundsException("no such snapshot is kept");
        }
        return place;
    }

    private int requireValue(int version) {
        int found = journal.valueOf(version);
        if (found == NO_VALUE) {
            throw new NoSuchElementException("there is no value");
        }
        return found;
    }

    // ---- versions and who sees them

    /** The lowest-numbered of transactions that are given by bits. */
    private static int lowestOf(long bits) {
        for (int number = 0; number < TRANSACTIONS; number++) {
            if ((bits >>> number & 1L) == 1L) {
                return number;
            }
        }
        return NOBODY;
    }

    private boolean isPromised(Transaction asked) {
        return asked != null && asked.state == 'c' && asked.endRecord <= journal.durableCount;
    }

    private int addVersion(Transaction writer, int key, int value) {
        writer.hasWritten = true;
        return storage.addVersion(writer.number, key, value);
    }

    private int countOf(Page page, int user) {
        if (page == null) {
            return 0;
        }
        int found = 0;
        for (int index = 0; index < page.size; index++) {
            Transaction owner = table.find(journal.ownerOf(page.versionOn(index)));
            if (owner != null && owner.user == user) {
                found++;
            }
        }
        return found;
    }

    /** The greatest version of a key that is by the reader or was committed up to a record; 0 if there is none. */
    private int latestSeen(int key, int moment, int reader) {
        Page page = storage.cached(storage.homeOf(key));
        if (page == null) {
            return 0;
        }
        int latest = 0;
        for (int index = 0; index < page.size; index++) {
            int version = page.versionOn(index);
            int owner = journal.ownerOf(version);
            if (page.keyOn(index) == key && (owner == reader || table.isCommitted(owner, moment))) {
                latest = Math.max(latest, version);
            }
        }
        return latest;
    }

    /** Finds, for each key, the greatest version in the log that was committed up to a record. */
    private void replay(int moment) {
        Arrays.fill(replayed, 0);
        for (int number = 1; number <= moment && number <= journal.count(); number++) {
            int key = journal.keyOf(number);
            if (journal.isVersion(number) && key >= 0 && key < replayed.length
                    && table.isCommitted(journal.ownerOf(number), moment)) {
                replayed[key] = number;
            }
        }
    }

    private boolean isReplaySame() {
        replay(journal.count());
        for (int key = 0; key < replayed.length; key++) {
            int seen = journal.valueOf(latestSeen(key, journal.count(), NOBODY));
            if (seen != journal.valueOf(replayed[key])) {
                return false;
            }
        }
        return true;
    }

    private int cleanOne(int number) {
        Page page = storage.cached(number);
        if (page == null) {
            return 0;
        }
        int taken = 0;
        int index = 0;
        for (int left = page.size; left > 0; left--) {
            if (isWaste(page.versionOn(index), page.keyOn(index))) {
                storage.takeAway('g', number, index);
                taken++;
            } else {
                index++;
            }
        }
        return taken;
    }

    private boolean isWaste(int version, int key) {
        if (!table.isCommitted(journal.ownerOf(version), journal.count())) {
            return false;
        }
        return !isNeeded(version, key)
                || journal.valueOf(version) == NO_VALUE && !storage.hasLower(key, version);
    }

    private boolean isNeeded(int version, int key) {
        if (latestSeen(key, journal.count(), NOBODY) == version) {
            return true;
        }
        for (int place = 0; place < snapshots.count; place++) {
            if (latestSeen(key, snapshots.momentAt(place), NOBODY) == version) {
                return true;
            }
        }
        return false;
    }

    // ---- aborting

    private void breakRings(Transaction asker) {
        for (int round = 0; round < TRANSACTIONS; round++) {
            Transaction victim = table.ringVictim(asker);
            if (victim == null) {
                return;
            }
            undoAndEnd(victim, 'd');
        }
    }

    private int undoAndEnd(Transaction ending, char state) {
        int count = 0;
        while (count < LOG_LIMIT && storage.undoGreatest(1L << ending.number)) {
            count++;
        }
        undoneVersions += count;
        int number = journal.append(new Entry('a', ending.number, NOBODY));
        table.end(ending, state, number);
        return count;
    }

    // ---- recovery

    private void makeStep() {
        if (recovery.phase == 'a') {
            recovery.analyse(journal.find(recovery.next), recovery.next);
            recovery.next++;
        } else if (recovery.phase == 'r') {
            redoneChanges += storage.redo(recovery.next);
            recovery.next++;
        } else if (storage.undoGreatest(recovery.alive)) {
            undoneVersions++;
        } else {
            int lowest = lowestOf(recovery.alive);
            journal.append(new Entry('a', lowest, NOBODY));
            recovery.dismiss(lowest);
        }
    }

    /** Begins the next phases at once as long as the one at hand has no step to make. */
    private void settlePhase() {
        if (recovery.phase == 'a' && recovery.next > journal.count()) {
            recovery.phase = 'r';
            recovery.next = storage.hasTorn() ? 1 : recovery.firstToRedo(journal.count() + 1);
        }
        if (recovery.phase == 'r' && recovery.next > journal.count()) {
            recovery.phase = 'u';
        }
        if (recovery.phase == 'u' && recovery.alive == 0L) {
            recovery.phase = 'd';
        }
    }

    /** A record of the log. */
    private static final class Entry {
        final char kind;
        final int transaction;
        final int page;
        /** For 'i', 'u' and 'g' the version that comes or goes. */
        int version;
        int key;
        int value;
        /** For 's' the page that is new, its low key and the versions that it gets. */
        int newPage;
        int boundary;
        int[] moved;
        /** For 'k' the record since which each page is dirty, 0 for a clean one, and the transactions by bits. */
        int[] since;
        long alive;

        Entry(char kind, int transaction, int page) {
            this.kind = kind;
            this.transaction = transaction;
            this.page = page;
        }
    }

    /** The log. */
    private static final class Journal {
        final ArrayList<Entry> entries = new ArrayList<>();
        int durableCount;

        int count() {
            return entries.size();
        }

        boolean isFull() {
            return entries.size() >= LOG_LIMIT;
        }

        Entry find(int number) {
            return number < 1 || number > entries.size() ? null : entries.get(number - 1);
        }

        int append(Entry entry) {
            entries.add(entry);
            return entries.size();
        }

        int makeDurable() {
            int added = entries.size() - durableCount;
            durableCount = entries.size();
            return added;
        }

        int loseUndurable() {
            int lost = entries.size() - durableCount;
            for (int last = entries.size() - 1; last >= 0 && last >= durableCount; last--) {
                entries.remove(last);
            }
            return lost;
        }

        /** The number of the last mark, or 1 if there is none: where recovery begins to look. */
        int lastMark() {
            for (int number = entries.size(); number > 1; number--) {
                if (entries.get(number - 1).kind == 'k') {
                    return number;
                }
            }
            return 1;
        }

        boolean isVersion(int number) {
            Entry entry = find(number);
            return entry != null && entry.kind == 'i';
        }

        int keyOf(int number) {
            Entry entry = find(number);
            return entry == null ? 0 : entry.key;
        }

        int valueOf(int number) {
            Entry entry = find(number);
            return entry == null ? NO_VALUE : entry.value;
        }

        int ownerOf(int number) {
            Entry entry = find(number);
            return entry == null ? NOBODY : entry.transaction;
        }
    }

    /** A page in the cache or on the disk: versions in the order of their keys, those of one key by their numbers. */
    private static final class Page {
        boolean isThere;
        boolean isTorn;
        int low;
        int stamp;
        /** The record since which the page is dirty, 0 if it is clean. */
        int since;
        int size;
        // A page that was torn and written half remade can get more versions than its room, so the rows can grow.
        int[] numbers = new int[PAGE_ROOM];
        int[] keys = new int[PAGE_ROOM];

        int versionOn(int index) {
            return index < 0 || index >= size || index >= numbers.length ? 0 : numbers[index];
        }

        int keyOn(int index) {
            return index < 0 || index >= size || index >= keys.length ? 0 : keys[index];
        }

        void empty() {
            low = 0;
            stamp = 0;
            since = 0;
            size = 0;
        }

        void changeBy(int recordNumber) {
            stamp = recordNumber;
            if (since == 0) {
                since = recordNumber;
            }
        }

        void insert(int number, int key) {
            growFor(size + 1);
            int index = size;
            while (index > 0 && index < numbers.length && index < keys.length
                    && (keys[index - 1] > key || keys[index - 1] == key && numbers[index - 1] > number)) {
                numbers[index] = numbers[index - 1];
                keys[index] = keys[index - 1];
                index--;
            }
            if (index < numbers.length && index < keys.length) {
                numbers[index] = number;
                keys[index] = key;
                size++;
            }
        }

        void growFor(int wanted) {
            if (wanted > numbers.length) {
                numbers = Arrays.copyOf(numbers, 2 * wanted);
                keys = Arrays.copyOf(keys, 2 * wanted);
            }
        }

        void removeOn(int index) {
            if (index < 0 || index >= size) {
                return;
            }
            for (int at = index + 1; at < size && at < numbers.length && at < keys.length; at++) {
                numbers[at - 1] = numbers[at];
                keys[at - 1] = keys[at];
            }
            size--;
        }

        /** Where a version is, -1 if it is not here. */
        int indexOf(int number) {
            for (int index = 0; index < size && index < numbers.length; index++) {
                if (numbers[index] == number) {
                    return index;
                }
            }
            return -1;
        }

        /** The index of the first version from a key on. */
        int indexFrom(int key) {
            int index = 0;
            while (index < size && keyOn(index) < key) {
                index++;
            }
            return index;
        }

        /** The low key of the new page if this one is split, -1 if it can't be. */
        int boundary() {
            int first = keyOn(0);
            for (int index = SPLIT_INDEX; index < size; index++) {
                if (keyOn(index) != first) {
                    return keyOn(index);
                }
            }
            return -1;
        }

        void takeOver(Page other) {
            isThere = other.isThere;
            low = other.low;
            stamp = other.stamp;
            since = 0;
            growFor(other.size);
            size = 0;
            for (int index = 0; index < other.size && index < numbers.length && index < keys.length; index++) {
                numbers[index] = other.versionOn(index);
                keys[index] = other.keyOn(index);
                size++;
            }
        }

        boolean isInOrder() {
            for (int index = 1; index < size; index++) {
                boolean isSameKey = keyOn(index - 1) == keyOn(index);
                if (keyOn(index - 1) > keyOn(index) || isSameKey && versionOn(index - 1) >= versionOn(index)) {
                    return false;
                }
            }
            return true;
        }
    }

    /** The pages in the cache and on the disk, and the changes of them that the log tells. */
    private static final class Storage {
        final Journal journal;
        final Page[] cache = new Page[PAGES];
        final Page[] disk = new Page[PAGES];
        long writes;

        Storage(Journal journal) {
            this.journal = journal;
            for (int number = 0; number < PAGES; number++) {
                cache[number] = new Page();
                disk[number] = new Page();
            }
            cache[0].isThere = true;
            disk[0].isThere = true;
        }

        /** A page in the cache, null if it is not there. */
        Page cached(int number) {
            if (number < 0 || number >= PAGES) {
                return null;
            }
            return cache[number].isThere ? cache[number] : null;
        }

        int cachedCount() {
            int found = 0;
            for (Page page : cache) {
                found += page.isThere ? 1 : 0;
            }
            return found;
        }

        int dirtyCount() {
            int found = 0;
            for (Page page : cache) {
                found += page.isThere && page.since != 0 ? 1 : 0;
            }
            return found;
        }

        int versionCount() {
            int found = 0;
            for (Page page : cache) {
                found += page.isThere ? page.size : 0;
            }
            return found;
        }

        int[] dirtySinces() {
            int[] sinces = new int[PAGES];
            for (int number = 0; number < PAGES; number++) {
                sinces[number] = cache[number].isThere ? cache[number].since : 0;
            }
            return sinces;
        }

        /** The page whose keys a key is among: the one with the greatest low key that is not above it. */
        int homeOf(int key) {
            int home = 0;
            int low = -1;
            for (int number = 0; number < PAGES; number++) {
                Page page = cache[number];
                if (page.isThere && page.low <= key && page.low > low) {
                    home = number;
                    low = page.low;
                }
            }
            return home;
        }

        /** The least key that is above those of a page. */
        int endOf(Page page) {
            int end = KEYS;
            for (Page other : cache) {
                if (other.isThere && other.low > page.low && other.low < end) {
                    end = other.low;
                }
            }
            return end;
        }

        boolean hasRoom(int key) {
            Page page = cached(homeOf(key));
            if (page == null) {
                return false;
            }
            return page.size < PAGE_ROOM || page.boundary() >= 0 && cachedCount() < PAGES;
        }

        int addVersion(int transaction, int key, int value) {
            Page full = cached(homeOf(key));
            if (full != null && full.size >= PAGE_ROOM) {
                split(homeOf(key), full);
            }
            int home = homeOf(key);
            Entry entry = new Entry('i', transaction, home);
            int number = journal.append(entry);
            entry.version = number;
            entry.key = key;
            entry.value = value;
            applyInsert(cached(home), entry, number);
            return number;
        }

        void split(int page, Page full) {
            Entry entry = new Entry('s', NOBODY, page);
            entry.newPage = cachedCount();
            entry.boundary = full.boundary();
            int from = full.indexFrom(entry.boundary);
            if (entry.boundary < 0 || entry.newPage >= PAGES || from > full.size) {
                return;
            }
            entry.moved = new int[full.size - from];
            for (int index = 0; index < entry.moved.length; index++) {
                entry.moved[index] = full.versionOn(from + index);
            }
            int recordNumber = journal.append(entry);
            applyCut(full, entry, recordNumber);
            Page fresh = cache[entry.newPage];
            fresh.empty();
            fresh.isThere = true;
            applyFill(fresh, entry, recordNumber);
        }

        void takeAway(char kind, int number, int index) {
            Page page = cached(number);
            if (page == null) {
                return;
            }
            int version = page.versionOn(index);
            Entry entry = new Entry(kind, kind == 'u' ? journal.ownerOf(version) : NOBODY, number);
            entry.version = version;
            applyRemoval(page, entry, journal.append(entry));
        }

        /** Undoes the version with the greatest number of those by some transactions, given by bits. */
        boolean undoGreatest(long owners) {
            int greatest = 0;
            int place = 0;
            for (int number = 0; number < PAGES; number++) {
                int found = greatestIn(cached(number), owners);
                if (found > greatest) {
                    greatest = found;
                    place = number;
                }
            }
            Page page = cached(place);
            if (greatest == 0 || page == null) {
                return false;
            }
            takeAway('u', place, page.indexOf(greatest));
            return true;
        }

        int greatestIn(Page page, long owners) {
            if (page == null) {
                return 0;
            }
            int greatest = 0;
            for (int index = 0; index < page.size; index++) {
                int version = page.versionOn(index);
                int owner = journal.ownerOf(version);
                if (owner >= 0 && (owners >>> owner & 1L) == 1L) {
                    greatest = Math.max(greatest, version);
                }
            }
            return greatest;
        }

        boolean hasLower(int key, int version) {
            for (Page page : cache) {
                for (int index = 0; page.isThere && index < page.size; index++) {
                    if (page.keyOn(index) == key && page.versionOn(index) < version) {
                        return true;
                    }
                }
            }
            return false;
        }

        void applyInsert(Page page, Entry entry, int recordNumber) {
            if (page != null) {
                page.insert(entry.version, entry.key);
                page.changeBy(recordNumber);
            }
        }

        void applyRemoval(Page page, Entry entry, int recordNumber) {
            page.removeOn(page.indexOf(entry.version));
            page.changeBy(recordNumber);
        }

        void applyCut(Page page, Entry entry, int recordNumber) {
            page.size = page.indexFrom(entry.boundary);
            page.changeBy(recordNumber);
        }

        void applyFill(Page page, Entry entry, int recordNumber) {
            page.low = entry.boundary;
            page.size = 0;
            for (int index = 0; entry.moved != null && index < entry.moved.length; index++) {
                page.insert(entry.moved[index], journal.keyOf(entry.moved[index]));
            }
            page.changeBy(recordNumber);
        }

        /** Makes the changes that a record tells again where a page lacks them; returns how many were made. */
        int redo(int recordNumber) {
            Entry entry = journal.find(recordNumber);
            if (entry == null) {
                return 0;
            }
            int made = 0;
            Page page = lacking(entry.page, recordNumber);
            if (page != null) {
                redoOn(page, entry, recordNumber);
                made++;
            }
            Page fresh = entry.kind == 's' ? lacking(entry.newPage, recordNumber) : null;
            if (fresh != null) {
                applyFill(fresh, entry, recordNumber);
                made++;
            }
            return made;
        }

        void redoOn(Page page, Entry entry, int recordNumber) {
            if (entry.kind == 'i') {
                applyInsert(page, entry, recordNumber);
            } else if (entry.kind == 's') {
                applyCut(page, entry, recordNumber);
            } else {
                applyRemoval(page, entry, recordNumber);
            }
        }

        /** A page that lacks the change of a record, laid anew if it is not there; null if it needs none. */
        Page lacking(int number, int recordNumber) {
            if (number < 0 || number >= PAGES) {
                return null;
            }
            Page page = cache[number];
            if (page.isThere && page.stamp >= recordNumber) {
                return null;
            }
            if (!page.isThere) {
                page.empty();
                page.isThere = true;
            }
            return page;
        }

        void writeOut(int number) {
            if (number >= 0 && number < PAGES) {
                disk[number].takeOver(cache[number]);
                disk[number].isTorn = false;
                cache[number].since = 0;
                writes++;
            }
        }

        void loseCache(int torn) {
            if (torn >= 0 && torn < PAGES) {
                disk[torn].empty();
                disk[torn].isThere = torn == 0;
                disk[torn].isTorn = true;
            }
            for (int number = 0; number < PAGES; number++) {
                cache[number].takeOver(disk[number]);
            }
        }

        boolean hasTorn() {
            for (Page page : disk) {
                if (page.isTorn) {
                    return true;
                }
            }
            return false;
        }

        boolean isSoundOnDisk(int number) {
            return number < 0 || number >= PAGES || disk[number].stamp <= journal.durableCount;
        }

        boolean isSoundCached(int number, boolean isUp) {
            Page page = cached(number);
            if (page == null) {
                return true;
            }
            if (page.size > PAGE_ROOM || page.stamp > journal.count() || !page.isInOrder()) {
                return false;
            }
            int end = endOf(page);
            for (int index = 0; index < page.size; index++) {
                int key = page.keyOn(index);
                if (!journal.isVersion(page.versionOn(index)) || isUp && (key < page.low || key >= end)) {
                    return false;
                }
            }
            return true;
        }
    }

    /** A transaction, the locks that it has, and the one that it wants. */
    private static final class Transaction {
        final int number;
        final int user;
        /** 'l', 'w', 'c', 'a', 'd' or 'x'; one that is promised is 'c' here. */
        char state = 'l';
        boolean hasWritten;
        /** The number of the record 'c' or 'a' by which it ended, 0 if it has not. */
        int endRecord;
        final int[] lows = new int[LOCKS];
        final int[] highs = new int[LOCKS];
        final boolean[] exclusives = new boolean[LOCKS];
        int lockCount;
        int wantedLow;
        int wantedHigh;
        boolean wantsExclusive;

        Transaction(int number, int user) {
            this.number = number;
            this.user = user;
        }

        boolean isOpen() {
            return state == 'l' || state == 'w';
        }

        void want(int low, int high, boolean isExclusive) {
            wantedLow = low;
            wantedHigh = high;
            wantsExclusive = isExclusive;
        }

        void takeWanted() {
            if (lockCount < LOCKS) {
                lows[lockCount] = wantedLow;
                highs[lockCount] = wantedHigh;
                exclusives[lockCount] = wantsExclusive;
                lockCount++;
            }
        }

        boolean covers(int key, boolean needsExclusive) {
            for (int index = 0; index < lockCount && index < LOCKS; index++) {
                if (lows[index] <= key && key <= highs[index] && (exclusives[index] || !needsExclusive)) {
                    return true;
                }
            }
            return false;
        }

        boolean hinders(Transaction asker) {
            for (int index = 0; index < lockCount && index < LOCKS; index++) {
                if (lows[index] <= asker.wantedHigh && asker.wantedLow <= highs[index]
                        && (exclusives[index] || asker.wantsExclusive)) {
                    return true;
                }
            }
            return false;
        }
    }

    /** All transactions, and those that wait, in the order in which they began to. */
    private static final class LockTable {
        final ArrayList<Transaction> all = new ArrayList<>();
        final ArrayList<Transaction> waiting = new ArrayList<>();
        final long[] waits = new long[TRANSACTIONS];
        long grants;

        int count() {
            return all.size();
        }

        int add(int user) {
            all.add(new Transaction(all.size(), user));
            return all.size() - 1;
        }

        Transaction find(int number) {
            return number < 0 || number >= all.size() ? null : all.get(number);
        }

        /** Whether a transaction was committed by a record up to a given one. */
        boolean isCommitted(int number, int moment) {
            Transaction found = find(number);
            return found != null && found.state == 'c' && found.endRecord <= moment;
        }

        /** The transactions, by bits, that have a version by a record and have not ended. */
        long openWriters() {
            long found = 0L;
            for (int number = 0; number < all.size(); number++) {
                Transaction asked = all.get(number);
                if (asked.isOpen() && asked.hasWritten) {
                    found |= 1L << number;
                }
            }
            return found;
        }

        /** The transactions, by bits, whose locks hinder the one that a transaction wants. */
        long hinderersOf(Transaction asker) {
            long found = 0L;
            for (int number = 0; number < all.size(); number++) {
                if (number != asker.number && all.get(number).hinders(asker)) {
                    found |= 1L << number;
                }
            }
            return found;
        }

        void startWaiting(Transaction asker) {
            asker.state = 'w';
            waiting.add(asker);
        }

        void end(Transaction ending, char state, int recordNumber) {
            for (int index = waiting.size() - 1; index >= 0; index--) {
                if (waiting.get(index) == ending) {
                    waiting.remove(index);
                }
            }
            ending.state = state;
            ending.endRecord = recordNumber;
            ending.lockCount = 0;
            wakeUnhindered();
        }

        void wakeUnhindered() {
            int index = 0;
            for (int left = waiting.size(); left > 0 && index < waiting.size(); left--) {
                Transaction asker = waiting.get(index);
                if (hinderersOf(asker) == 0L) {
                    waiting.remove(index);
                    asker.takeWanted();
                    asker.state = 'l';
                    grants++;
                } else {
                    index++;
                }
            }
        }

        /** The one to abort if a transaction that waits does so for itself, over others; null if it does not. */
        Transaction ringVictim(Transaction asker) {
            Arrays.fill(waits, 0L);
            for (int index = 0; index < waiting.size(); index++) {
                Transaction one = waiting.get(index);
                if (one.number >= 0 && one.number < waits.length) {
                    waits[one.number] = hinderersOf(one);
                }
            }
            long ring = reachedFrom(asker.number) & reaching(asker.number);
            return find(highestOf(ring));
        }

        static int highestOf(long bits) {
            for (int number = TRANSACTIONS - 1; number >= 0; number--) {
                if ((bits >>> number & 1L) == 1L) {
                    return number;
                }
            }
            return NOBODY;
        }

        /** All for which a transaction waits, over others too. */
        long reachedFrom(int start) {
            long reached = start < 0 || start >= waits.length ? 0L : waits[start];
            for (int round = 0; round < TRANSACTIONS; round++) {
                long wider = reached;
                for (int number = 0; number < waits.length; number++) {
                    if ((reached >>> number & 1L) == 1L) {
                        wider |= waits[number];
                    }
                }
                if (wider == reached) {
                    return reached;
                }
                reached = wider;
            }
            return reached;
        }

        /** All that wait for a transaction, over others too. */
        long reaching(int goal) {
            long target = 1L << goal;
            long reaching = 0L;
            for (int round = 0; round < TRANSACTIONS; round++) {
                long wider = reaching;
                for (int number = 0; number < waits.length; number++) {
                    if ((waits[number] & (target | reaching)) != 0L) {
                        wider |= 1L << number;
                    }
                }
                if (wider == reaching) {
                    return reaching;
                }
                reaching = wider;
            }
            return reaching;
        }

        /** After a crash: no locks, and all are lost but those whose end a durable record tells. */
        void loseAll(int durableCount) {
            waiting.clear();
            for (int number = 0; number < all.size(); number++) {
                Transaction one = all.get(number);
                one.lockCount = 0;
                if (one.isOpen() || one.endRecord > durableCount) {
                    one.state = 'x';
                    one.endRecord = 0;
                }
            }
        }
    }

    /** The snapshots that are kept, each with the length that the log had when it was taken. */
    private static final class Snapshots {
        final int[] numbers = new int[SNAPSHOTS];
        final int[] moments = new int[SNAPSHOTS];
        int count;
        int taken;

        int take(int moment) {
            if (count < SNAPSHOTS) {
                numbers[count] = taken;
                moments[count] = moment;
                count++;
                taken++;
            }
            return taken - 1;
        }

        int placeOf(int number) {
            for (int place = 0; place < count && place < SNAPSHOTS; place++) {
                if (numbers[place] == number) {
                    return place;
                }
            }
            return -1;
        }

        int momentAt(int place) {
            return place < 0 || place >= SNAPSHOTS ? 0 : moments[place];
        }

        void forget(int place) {
            if (place < 0 || place >= count) {
                return;
            }
            for (int at = place + 1; at < count && at < SNAPSHOTS; at++) {
                numbers[at - 1] = numbers[at];
                moments[at - 1] = moments[at];
            }
            count--;
        }

        void forgetAll() {
            count = 0;
        }
    }

    /** How far recovery has come, and what it keeps: pages that may be dirty, transactions that may be alive. */
    private static final class Recovery {
        char phase = 'd';
        /** The record that the next step looks at. */
        int next;
        final int[] since = new int[PAGES];
        long alive;

        void start(int recordNumber) {
            phase = 'a';
            next = recordNumber;
            alive = 0L;
            Arrays.fill(since, 0);
        }

        void analyse(Entry entry, int recordNumber) {
            if (entry == null) {
                return;
            }
            if (entry.kind == 'k') {
                keepMarked(entry);
            } else if (entry.kind == 'c' || entry.kind == 'a') {
                dismiss(entry.transaction);
            } else {
                keepChanged(entry, recordNumber);
            }
        }

        void keepMarked(Entry entry) {
            alive = entry.alive;
            for (int page = 0; entry.since != null && page < PAGES && page < entry.since.length; page++) {
                since[page] = entry.since[page];
            }
        }

        void keepChanged(Entry entry, int recordNumber) {
            if (entry.kind == 'i') {
                alive |= 1L << entry.transaction;
            }
            keepPage(entry.page, recordNumber);
            if (entry.kind == 's') {
                keepPage(entry.newPage, recordNumber);
            }
        }

        void keepPage(int page, int recordNumber) {
            if (page >= 0 && page < PAGES && since[page] == 0) {
                since[page] = recordNumber;
            }
        }

        void dismiss(int transaction) {
            alive &= ~(1L << transaction);
        }

        /** The least record since which a page may be dirty, or the given one if none is kept. */
        int firstToRedo(int end) {
            int first = end;
            for (int recordNumber : since) {
                if (recordNumber != 0 && recordNumber < first) {
                    first = recordNumber;
                }
            }
            return first;
        }
    }

    /** How far the replica has followed the log, and how far it had when it was pinned. */
    private static final class Replica {
        final int[] pins = new int[PINS];
        int pinCount;
        int followed;

        int addPin() {
            if (pinCount < PINS) {
                pins[pinCount] = followed;
                pinCount++;
            }
            return pinCount - 1;
        }

        int momentOf(int pin) {
            return pin < 0 || pin >= pinCount || pin >= PINS ? followed : pins[pin];
        }
    }
}
