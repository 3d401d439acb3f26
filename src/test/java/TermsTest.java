import java.util.NoSuchElementException;

/** The sentences of 'Terms' that name a boundary, one test each, which looks at both sides of it. */
public final class TermsTest {
    private static final Check CHECK = new Check("TermsTest");

    private TermsTest() { }

    public static void main(String[] args) {
        pagesAndVersions();
        room();
        log();
        transactions();
        locks();
        rings();
        waking();
        wakingNoneThatEnded();
        sixtyTransactions();
        quotas();
        snapshots();
        cleaning();
        marks();
        crashes();
        tornPages();
        firstPhase();
        secondPhase();
        splitOfWhatIsLacking();
        thirdPhase();
        phasesWithoutSteps();
        replica();
        CHECK.end();
    }

    private static void term(String sentence) {
        CHECK.says(sentence);
    }

    private static int own(RiptideLedger x) {
        return Scenes.own(x, 0);
    }

    /** Puts a value for a key in a transaction of its own that commits, and returns the number of the version. */
    private static int commitPut(RiptideLedger x, int key, int value) {
        int writer = own(x);
        int version = x.put(writer, key, value);
        x.commit(writer);
        return version;
    }

    private static void commitRemove(RiptideLedger x, int key) {
        int writer = own(x);
        x.remove(writer, key);
        x.commit(writer);
    }

    /** The numbers of the versions of a page, in their order. */
    private static String versions(RiptideLedger x, int page) {
        StringBuilder text = new StringBuilder();
        for (int index = 0; index < x.sizeOf(page); index++) {
            text.append(index == 0 ? "" : " ").append(x.versionAt(page, index));
        }
        return text.toString();
    }

    private static String keys(RiptideLedger x, int page) {
        StringBuilder text = new StringBuilder();
        for (int index = 0; index < x.sizeOf(page); index++) {
            text.append(index == 0 ? "" : " ").append(x.keyAt(page, index));
        }
        return text.toString();
    }

    private static String kinds(RiptideLedger x) {
        StringBuilder text = new StringBuilder();
        for (int number = 1; number <= x.logLength(); number++) {
            text.append(x.kindAt(number));
        }
        return text.toString();
    }

    private static String states(RiptideLedger x, int count) {
        StringBuilder text = new StringBuilder();
        for (int number = 0; number < count; number++) {
            text.append(x.stateOf(number));
        }
        return text.toString();
    }

    /** Makes single steps of recovery as long as this phase lasts, and returns how many. */
    private static int stepsOf(char phase, RiptideLedger x) {
        int steps = 0;
        while (x.phase() == phase && steps < 200) {
            steps += x.recover(1);
        }
        return steps;
    }

    private static String steps(RiptideLedger x) {
        return stepsOf('a', x) + " " + stepsOf('r', x) + " " + stepsOf('u', x) + " " + x.phase();
    }

    // ---- keys, versions and pages

    private static void pagesAndVersions() {
        term("A version has a number, which is that of the record of the log by which it came");
        RiptideLedger x = Scenes.filled(10, 20, 30, 40, 50, 60);
        CHECK.due(6, x.versionAt(0, 5));
        // behind a split: the record of this comes first
        CHECK.due(8, x.put(0, 45, 450));
        CHECK.due(8, x.versionAt(1, 1));
        CHECK.dueText("iiiiiisi", kinds(x));

        term("the page 0 is there from the beginning, with the low key 0");
        RiptideLedger fresh = new RiptideLedger();
        CHECK.due(1, fresh.pages());
        CHECK.due(0, fresh.lowOf(0));
        CHECK.dueThrow(IndexOutOfBoundsException.class, () -> fresh.lowOf(1));

        term("versions of keys from this one up to below the next greater low key of a page");
        CHECK.due(40, x.lowOf(1));
        x.put(0, 40, 1);
        CHECK.dueText("40 40 45 50 60", keys(x, 1));
        x.put(0, 39, 1);
        CHECK.dueText("10 20 30 39", keys(x, 0));
        // the next greater low key is not that of the next number: the page 0 is split again
        x.put(0, 5, 1);
        x.put(0, 6, 1);
        x.put(0, 7, 1);
        CHECK.due(20, x.lowOf(2));
        CHECK.due(0, x.pageOf(19));
        CHECK.due(2, x.pageOf(20));
        CHECK.due(2, x.pageOf(39));
        CHECK.due(1, x.pageOf(40));
        CHECK.due(1, x.pageOf(63));

        term("at most 6");
        RiptideLedger six = Scenes.filled(1, 2, 3, 4, 5, 6);
        CHECK.due(6, six.sizeOf(0));
        CHECK.due(1, six.pages());
        six.put(0, 7, 7);
        CHECK.due(2, six.pages());

        term("in the order of their keys, those of one key by their numbers");
        CHECK.dueText("2 4 1 3 5", versions(Scenes.filled(63, 0, 63, 0, 63), 0));

        term("a stamp, which is the number of the last record that changed it, 0 at first");
        CHECK.due(0, fresh.stampOf(0));
        fresh.mark();
        CHECK.due(0, fresh.stampOf(0));
        own(fresh);
        CHECK.due(2, fresh.put(0, 1, 1));
        CHECK.due(2, fresh.stampOf(0));
        fresh.commit(0);
        CHECK.due(2, fresh.stampOf(0));
    }

    /** The low keys of the page 0 and of the page 1, and their keys, behind a put that splits. */
    private static String splitOf(int key, int... keys) {
        RiptideLedger x = Scenes.filled(keys);
        x.put(0, key, 0);
        return x.pages() == 1 ? "no split" : x.lowOf(1) + ": " + keys(x, 0) + " | " + keys(x, 1);
    }

    private static void room() {
        term("If that has 6 versions, it is split first");
        CHECK.dueText("no split", splitOf(9, 1, 2, 3, 4, 5));
        CHECK.dueText("4: 1 2 3 | 4 5 6 9", splitOf(9, 1, 2, 3, 4, 5, 6));

        term("the boundary is the key of the version with the index 3");
        CHECK.dueText("4: 1 2 3 3 | 4 5 6", splitOf(3, 6, 5, 4, 3, 2, 1));
        CHECK.dueText("4: 1 1 1 | 4 4 4 4", splitOf(4, 1, 1, 1, 4, 4, 4));
        // all versions of it go, those before the index 3 too
        CHECK.dueText("4: 1 1 1 | 4 4 4 5", splitOf(1, 1, 1, 4, 4, 4, 5));
        CHECK.dueText("4: 1 3 | 4 4 4 4 4", splitOf(3, 1, 4, 4, 4, 4, 4));
        CHECK.dueText("63: 0 0 0 1 | 63 63 63", splitOf(1, 0, 0, 0, 63, 63, 63));

        term("or, if this is that of the version with the index 0, the least key in the page that is greater");
        CHECK.dueText("5: 1 1 1 1 | 5 9 9", splitOf(9, 1, 1, 1, 1, 5, 9));
        CHECK.dueText("9: 1 1 1 1 1 1 | 9", splitOf(1, 1, 1, 1, 1, 1, 9));
        CHECK.dueText("1: 0 0 0 0 0 0 | 1", splitOf(0, 0, 0, 0, 0, 0, 1));

        term("There is no room if there is no such key");
        RiptideLedger x = Scenes.oneKey();
        for (int key = 0; key < 64; key++) {
            int given = key;
            CHECK.dueThrow(UnsupportedOperationException.class, () -> x.put(0, given, 1));
        }
        CHECK.dueText("iiiiii", kinds(x));

        term("or there are 12 pages");
        RiptideLedger eleven = Scenes.filledUp(11, 6);
        CHECK.due(11, eleven.pages());
        CHECK.due(48, eleven.put(0, 63, 1));
        CHECK.due(12, eleven.pages());
        CHECK.due(33, eleven.lowOf(11));
        RiptideLedger twelve = Scenes.twelvePages();
        CHECK.dueThrow(UnsupportedOperationException.class, () -> twelve.put(0, 33, 1));
        CHECK.dueThrow(UnsupportedOperationException.class, () -> twelve.put(0, 63, 1));
        // a page with fewer than 6 versions needs no new one
        for (int count = 0; count < 3; count++) {
            twelve.put(0, 0, count);
        }
        CHECK.due(6, twelve.sizeOf(0));
        CHECK.dueThrow(UnsupportedOperationException.class, () -> twelve.put(0, 0, 1));
        CHECK.due(54, twelve.put(0, 3, 1));
        CHECK.due(12, twelve.pages());

        term("with the next number and the boundary as its low key, gets all versions from the boundary on");
        RiptideLedger next = Scenes.filled(10, 20, 30, 40, 50, 60, 1, 2, 3, 4);
        CHECK.due(3, next.pages());
        CHECK.dueText("0 40 10", next.lowOf(0) + " " + next.lowOf(1) + " " + next.lowOf(2));
        CHECK.dueText("10 20 30", keys(next, 2));

        term("A split is never undone");
        next.abort(0);
        CHECK.due(3, next.pages());
        CHECK.dueText("0 40 10", next.lowOf(0) + " " + next.lowOf(1) + " " + next.lowOf(2));
        CHECK.due(0, next.sizeOf(0) + next.sizeOf(1) + next.sizeOf(2));
        next.force();
        next.crash(-1);
        Scenes.recovered(next);
        CHECK.due(3, next.pages());
        CHECK.due(2, next.pageOf(39));
        // nor by the cleaner, nor by the undoing of recovery
        RiptideLedger emptied = Scenes.filled(1, 2, 3, 4, 5, 6, 7);
        emptied.force();
        emptied.crash(-1);
        Scenes.recovered(emptied);
        CHECK.due(2, emptied.pages());
        CHECK.due(0, emptied.sizeOf(1));
        CHECK.due(4, emptied.lowOf(1));
        RiptideLedger cleaned = Scenes.filled(1, 2, 3, 4, 5, 6, 7);
        cleaned.commit(0);
        for (int key = 4; key <= 7; key++) {
            commitRemove(cleaned, key);
            CHECK.due(2, cleaned.clean());
        }
        CHECK.due(0, cleaned.sizeOf(1));
        CHECK.due(2, cleaned.pages());
    }

    // ---- the log

    private static void log() {
        term("Records are numbered from 1");
        RiptideLedger x = Scenes.owned();
        CHECK.dueThrow(IndexOutOfBoundsException.class, () -> x.kindAt(0));
        CHECK.dueThrow(IndexOutOfBoundsException.class, () -> x.kindAt(1));
        CHECK.due(1, x.put(0, 5, 5));
        CHECK.due('i', x.kindAt(1));
        CHECK.dueThrow(IndexOutOfBoundsException.class, () -> x.kindAt(2));

        term("The first records up to some are durable");
        CHECK.due(0, x.durable());
        x.put(0, 6, 6);
        CHECK.due(2, x.force());
        x.put(0, 7, 7);
        CHECK.due(2, x.durable());
        CHECK.due(3, x.logLength());

        term("it is dirty from this record on if it was not dirty, until it is written to the disk");
        CHECK.due(1, x.firstDirty(0));
        x.force();
        x.writePage(0);
        CHECK.due(false, x.isDirty(0));
        x.put(0, 8, 8);
        CHECK.due(4, x.firstDirty(0));
        x.put(0, 9, 9);
        CHECK.due(4, x.firstDirty(0));
        CHECK.due(5, x.stampOf(0));

        term("Both pages of a split are changed by its record");
        RiptideLedger y = Scenes.filled(1, 2, 3, 4, 5, 6);
        y.force();
        y.writePage(0);
        // the version goes into the new page: the old one has the stamp of the split
        CHECK.due(8, y.put(0, 7, 7));
        CHECK.dueText("7 7 8 7", y.stampOf(0) + " " + y.firstDirty(0) + " " + y.stampOf(1) + " " + y.firstDirty(1));
        RiptideLedger z = Scenes.filled(1, 2, 3, 4, 5, 6);
        CHECK.due(8, z.put(0, 0, 0));
        CHECK.dueText("8 1 7 7", z.stampOf(0) + " " + z.firstDirty(0) + " " + z.stampOf(1) + " " + z.firstDirty(1));
    }

    // ---- transactions, locks, rings

    private static void transactions() {
        term("then it is promised when the record of this is durable");
        RiptideLedger x = Scenes.filled(5);
        x.begin(0);
        CHECK.due(2, x.commit(0));
        CHECK.due('c', x.stateOf(0));
        CHECK.due(0, x.promised());
        x.force();
        CHECK.due('p', x.stateOf(0));
        CHECK.due(1, x.promised());
        // the record before is durable, this one is not
        CHECK.due(3, x.commit(1));
        CHECK.dueText("pc", states(x, 2));
        CHECK.due(1, x.promised());

        term("its versions are undone, the one with the greatest number first, and then comes its record 'a'");
        RiptideLedger y = Scenes.with(2);
        y.lock(0, 0, 31, true);
        y.lock(1, 32, 63, true);
        y.put(0, 9, 1);
        y.put(1, 40, 2);
        y.put(0, 3, 3);
        y.put(0, 9, 4);
        CHECK.dueText("3 1 4 2", versions(y, 0));
        CHECK.due(3, y.abort(0));
        CHECK.dueText("iiiiuuua", kinds(y));
        CHECK.dueText("2", versions(y, 0));
        // as far as the records 'u' are durable: which version went with each of them
        RiptideLedger z = Scenes.filled(9, 3, 9);
        z.force();
        z.crash(-1);
        z.recover(3 + 3 + 1);
        CHECK.dueText("2 1", versions(z, 0));
        z.recover(1);
        CHECK.dueText("1", versions(z, 0));
        RiptideLedger none = Scenes.owned();
        CHECK.due(0, none.abort(0));
        CHECK.dueText("a", kinds(none));

        term("When it commits or is aborted, its locks are gone");
        CHECK.due(0, y.locksOf(0));
        CHECK.due(1, y.locksOf(1));
        y.commit(1);
        CHECK.due(0, y.locksOf(1));
    }

    /** Asks for a lock for 1 when 0 has one, and returns the answer. */
    private static char second(int low, int high, boolean isExclusive, int itsLow, int itsHigh, boolean itsExclusive) {
        RiptideLedger x = Scenes.with(2);
        x.lock(0, low, high, isExclusive);
        return x.lock(1, itsLow, itsHigh, itsExclusive);
    }

    private static void locks() {
        term("Two locks on ranges that have a key in common hinder each other");
        CHECK.due('w', second(10, 20, true, 20, 30, true));
        CHECK.due('g', second(10, 20, true, 21, 30, true));
        CHECK.due('w', second(10, 20, true, 5, 10, true));
        CHECK.due('g', second(10, 20, true, 5, 9, true));
        CHECK.due('w', second(10, 20, true, 12, 13, true));
        CHECK.due('w', second(12, 13, true, 10, 20, true));
        CHECK.due('w', second(0, 0, true, 0, 63, true));
        CHECK.due('w', second(63, 63, true, 0, 63, true));
        CHECK.due('g', second(63, 63, true, 0, 62, true));
        CHECK.due('g', second(0, 0, true, 1, 63, true));

        term("if they are of two transactions and one is exclusive");
        CHECK.due('w', second(10, 20, true, 15, 15, false));
        CHECK.due('w', second(10, 20, false, 15, 15, true));
        CHECK.due('g', second(10, 20, false, 15, 15, false));
        RiptideLedger own = Scenes.owned();
        CHECK.due('g', own.lock(0, 5, 9, false));
        CHECK.due('g', own.lock(0, 5, 9, true));

        term("A lock is granted if it is hindered by no lock that a transaction has");
        RiptideLedger x = Scenes.with(3);
        x.lock(0, 5, 5, false);
        CHECK.due('w', x.lock(1, 5, 5, true));
        // 1 wants its lock, but has it not
        CHECK.due('g', x.lock(2, 5, 5, false));
        CHECK.due(0, x.locksOf(1));

        term("waits, at each moment for the transactions that have locks that hinder it at that moment");
        CHECK.due(0, x.waitsFor(1));
        x.commit(0);
        CHECK.due(2, x.waitsFor(1));

        term("it is not live then");
        CHECK.due('w', x.stateOf(1));
        CHECK.dueThrow(IllegalStateException.class, () -> x.commit(1));
        x.commit(2);
        CHECK.due('l', x.stateOf(1));
        CHECK.due(2 + 1, x.commit(1));
    }

    /** Transactions that each have the key of their number for themselves. */
    private static RiptideLedger each(int count) {
        RiptideLedger x = Scenes.with(count);
        for (int number = 0; number < count; number++) {
            x.lock(number, number, number, true);
        }
        return x;
    }

    private static void rings() {
        term("As long as a transaction that begins to wait waits for itself, over others that wait, in a ring");
        RiptideLedger chain = each(4);
        CHECK.due('w', chain.lock(0, 1, 1, true));
        CHECK.due('w', chain.lock(1, 2, 2, true));
        CHECK.due('w', chain.lock(2, 3, 3, true));
        CHECK.dueText("wwwl", states(chain, 4));
        CHECK.due('d', chain.lock(3, 0, 0, true));
        // 3 went, so 2 has its lock; the others wait still
        CHECK.dueText("wwld", states(chain, 4));

        term("the one with the greatest number of all that are in both ways of waiting is aborted");
        RiptideLedger middle = each(3);
        middle.lock(0, 2, 2, true);
        middle.lock(2, 1, 1, true);
        CHECK.due('w', middle.lock(1, 0, 0, true));
        CHECK.dueText("lwd", states(middle, 3));
        CHECK.due(0, middle.waitsFor(1));

        term("for which it waits and that wait for it, over others, itself included");
        RiptideLedger itself = each(2);
        itself.lock(0, 1, 1, true);
        CHECK.due('d', itself.lock(1, 0, 0, true));
        CHECK.dueText("ld", states(itself, 2));
        // 4 waits for the ring, but nobody for it; the ring waits for 3, but it for nobody
        RiptideLedger beside = each(5);
        beside.lock(4, 0, 0, true);
        beside.lock(1, 0, 0, true);
        CHECK.due('w', beside.lock(0, 1, 3, true));
        CHECK.dueText("wdllw", states(beside, 5));
        CHECK.due(2, beside.waitsFor(0));

        term("As long as: rings are broken until there is none");
        RiptideLedger twice = Scenes.with(3);
        twice.lock(0, 0, 0, true);
        twice.lock(1, 1, 1, false);
        twice.lock(2, 1, 1, false);
        twice.lock(1, 0, 0, false);
        twice.lock(2, 0, 0, false);
        CHECK.due('g', twice.lock(0, 1, 1, true));
        CHECK.dueText("ldd", states(twice, 3));
        CHECK.dueText("aa", kinds(twice));
        CHECK.due(2, twice.transactionAt(1));
        // one ring is left out of two: the second one is broken with the one that asked
        RiptideLedger last = Scenes.with(3);
        last.lock(0, 10, 10, true);
        last.lock(1, 11, 11, true);
        last.lock(2, 12, 12, true);
        last.lock(0, 12, 12, true);
        CHECK.due('d', last.lock(2, 10, 11, true));
        CHECK.dueText("lld", states(last, 3));
        CHECK.due(2, last.locksOf(0));

        term("is aborted: its versions are undone, and then comes its record 'a'");
        RiptideLedger undone = each(2);
        undone.put(1, 1, 1);
        undone.put(0, 0, 1);
        undone.put(1, 1, 2);
        undone.lock(0, 1, 1, true);
        CHECK.due('d', undone.lock(1, 0, 0, true));
        CHECK.dueText("iiiuua", kinds(undone));
        CHECK.due(2, undone.undone());
        CHECK.due(1, undone.sizeOf(0));
    }

    private static void waking() {
        term("those that wait are looked at, in the order in which they began to wait");
        RiptideLedger x = Scenes.with(4);
        x.lock(0, 5, 5, true);
        x.lock(3, 5, 5, true);
        x.lock(1, 5, 5, true);
        x.lock(2, 5, 5, true);
        x.commit(0);
        CHECK.dueText("cwwl", states(x, 4));
        x.commit(3);
        CHECK.dueText("clwc", states(x, 4));
        x.abort(1);
        CHECK.dueText("calc", states(x, 4));
        CHECK.due(3, x.woken());

        term("one whose lock is not hindered any more has it and is live");
        RiptideLedger y = Scenes.with(5);
        y.lock(0, 0, 20, true);
        y.lock(1, 10, 10, false);
        y.lock(2, 10, 11, true);
        y.lock(3, 10, 10, false);
        y.lock(4, 11, 20, true);
        y.commit(0);
        // 1 and 3 share, 2 is hindered by 1, and 4 is looked at behind it
        CHECK.dueText("clwll", states(y, 5));
        CHECK.dueText("0 1 0 1 1", y.locksOf(0) + " " + y.locksOf(1) + " " + y.locksOf(2) + " " + y.locksOf(3) + " "
                + y.locksOf(4));
        y.commit(1);
        y.commit(3);
        CHECK.due('w', y.stateOf(2));
        y.commit(4);
        CHECK.due('l', y.stateOf(2));
        CHECK.due(4, y.woken());

        CHECK.promise(13, "woken: how often a transaction that waited was granted its lock");
        // a lock that is granted at once does not count; one that is aborted as it waits does not
        RiptideLedger z = Scenes.with(3);
        z.lock(0, 5, 5, true);
        CHECK.due(0, z.woken());
        z.lock(1, 5, 5, true);
        z.abort(1);
        CHECK.due(0, z.woken());
        // it began to wait, and got its lock in the same call, as another was aborted for the ring
        z.lock(2, 6, 6, true);
        z.lock(2, 5, 5, true);
        CHECK.due('g', z.lock(0, 6, 6, true));
        CHECK.due(1, z.woken());
        // the same transaction waits once more
        RiptideLedger again = Scenes.with(3);
        again.lock(0, 5, 5, true);
        again.lock(1, 5, 5, true);
        again.commit(0);
        again.lock(2, 6, 6, true);
        again.lock(1, 6, 6, true);
        again.commit(2);
        CHECK.due(2, again.woken());
        CHECK.due(2, again.locksOf(1));
        // those that wait when the store crashes are not granted their locks
        RiptideLedger lost = Scenes.with(2);
        lost.lock(0, 5, 5, true);
        lost.lock(1, 5, 5, true);
        lost.crash(-1);
        CHECK.due(0, lost.woken());
    }

    private static void wakingNoneThatEnded() {
        term("those that wait are looked at");
        // those that do not wait any more are not: each place of three that wait, aborted, or aborted for a ring
        for (int gone = 1; gone <= 3; gone++) {
            RiptideLedger x = Scenes.with(4);
            x.lock(0, 5, 5, true);
            for (int number = 1; number <= 3; number++) {
                x.lock(number, 5, 5, false);
            }
            x.abort(gone);
            x.commit(0);
            CHECK.dueText("clll".substring(0, gone) + "a" + "clll".substring(gone + 1), states(x, 4));
            CHECK.due(2, x.woken());
            CHECK.due(0, x.locksOf(gone));
        }
        RiptideLedger ring = each(3);
        ring.lock(1, 0, 0, true);
        ring.lock(2, 0, 0, true);
        CHECK.due('g', ring.lock(0, 2, 2, true));
        ring.commit(0);
        CHECK.dueText("cld", states(ring, 3));
        // those that waited when the store crashed are lost, and stay so when locks go later
        RiptideLedger lost = Scenes.with(3);
        lost.lock(0, 5, 5, true);
        lost.lock(1, 5, 5, true);
        lost.crash(-1);
        own(lost);
        lost.commit(3);
        CHECK.dueText("xxxc", states(lost, 4));
        CHECK.due(0, lost.woken());
        CHECK.due(0, lost.locksOf(1));
    }

    private static void sixtyTransactions() {
        CHECK.promise(2, "begin: 60 transactions, each as good as the first one");
        RiptideLedger x = Scenes.with(60);
        x.lock(58, 8, 8, true);
        x.lock(59, 9, 9, true);
        x.put(59, 9, 90);
        CHECK.due('w', x.lock(0, 9, 9, true));
        CHECK.due(59, x.waitsFor(0));
        CHECK.due('w', x.lock(58, 9, 9, true));
        CHECK.due(59, x.waitsFor(58));
        CHECK.due('d', x.lock(59, 8, 8, true));
        CHECK.dueText("d l w", x.stateOf(59) + " " + x.stateOf(0) + " " + x.stateOf(58));
        // over all others: each waits for the next one, and the last one for the first one
        RiptideLedger chain = each(60);
        for (int number = 0; number < 59; number++) {
            CHECK.due('w', chain.lock(number, number + 1, number + 1, true));
        }
        CHECK.due('d', chain.lock(59, 0, 0, true));
        CHECK.dueText("w l d", chain.stateOf(57) + " " + chain.stateOf(58) + " " + chain.stateOf(59));
        // the last one in a mark, and in the third phase
        RiptideLedger marked = Scenes.with(60);
        marked.lock(59, 9, 9, true);
        marked.put(59, 9, 90);
        marked.mark();
        marked.force();
        marked.crash(-1);
        CHECK.dueText("1 2 2 d", steps(marked));
        CHECK.dueText("59 59", marked.transactionAt(3) + " " + marked.transactionAt(4));
        RiptideLedger promised = Scenes.with(60);
        for (int number = 0; number < 60; number++) {
            promised.commit(number);
        }
        CHECK.due(0, promised.promised());
        promised.force();
        CHECK.due(60, promised.promised());
    }

    // ---- quotas, snapshots, cleaning

    private static void quotas() {
        term("A user has a quota of versions, 99 at first");
        RiptideLedger x = Scenes.with(2);
        for (int user = 0; user < 4; user++) {
            CHECK.due(99, x.setQuota(user, 99));
        }

        term("it is reached if as many versions by transactions of the user are in pages");
        x.lock(0, 0, 9, true);
        x.lock(1, 10, 19, true);
        x.setQuota(0, 3);
        x.put(0, 0, 1);
        x.put(1, 10, 1);
        CHECK.due(3, x.remove(0, 0));
        CHECK.dueThrow(UnsupportedOperationException.class, () -> x.put(0, 0, 1));
        CHECK.dueThrow(UnsupportedOperationException.class, () -> x.put(1, 10, 1));
        x.setQuota(0, 4);
        CHECK.due(4, x.put(1, 10, 1));
        CHECK.dueThrow(UnsupportedOperationException.class, () -> x.put(0, 0, 1));
        x.setQuota(0, 2);
        CHECK.dueThrow(UnsupportedOperationException.class, () -> x.put(0, 0, 1));
        // versions that are not in pages any more do not count
        x.abort(1);
        CHECK.due(2, x.versionsOf(0));
        CHECK.dueThrow(UnsupportedOperationException.class, () -> x.put(0, 0, 1));
        x.setQuota(0, 3);
        CHECK.due(8, x.put(0, 0, 1));
        x.commit(0);
        CHECK.due(2, x.clean());
        CHECK.due(1, x.versionsOf(0));

        term("Transactions keep their users for ever");
        x.force();
        x.crash(-1);
        CHECK.due(0, x.versionsOf(0));
        Scenes.recovered(x);
        CHECK.due(1, x.versionsOf(0));
        CHECK.due(3, x.setQuota(0, 1));
        own(x);
        CHECK.dueThrow(UnsupportedOperationException.class, () -> x.put(2, 5, 1));
    }

    private static void snapshots() {
        term("the version with the greatest number of those that were committed by a record that was there");
        RiptideLedger x = Scenes.filled(5);
        x.snapshot();
        x.put(0, 5, 51);
        x.commit(0);
        x.snapshot();
        CHECK.dueThrow(NoSuchElementException.class, () -> x.readAt(0, 5));
        CHECK.due(51, x.readAt(1, 5));
        // the version was there, the record that commits it was not
        own(x);
        x.put(1, 5, 52);
        x.snapshot();
        x.commit(1);
        CHECK.due(51, x.readAt(2, 5));
        x.snapshot();
        CHECK.due(52, x.readAt(3, 5));
        // the record need not be durable, and becomes it without a difference
        x.force();
        CHECK.due(51, x.readAt(2, 5));
        CHECK.due(52, x.readAt(3, 5));

        CHECK.promise(16, "snapshot: its number, in the order of all that were ever taken");
        CHECK.due(3, x.drop(1));
        CHECK.due(4, x.snapshot());
        x.crash(-1);
        Scenes.recovered(x);
        CHECK.due(5, x.snapshot());
        CHECK.dueThrow(IndexOutOfBoundsException.class, () -> x.readAt(4, 5));
        CHECK.due(52, x.readAt(5, 5));
    }

    private static void cleaning() {
        term("needs the version that each snapshot that is kept sees, and the one with the greatest number");
        RiptideLedger x = new RiptideLedger();
        commitPut(x, 5, 50);
        commitPut(x, 5, 51);
        x.snapshot();
        commitPut(x, 5, 52);
        x.snapshot();
        commitPut(x, 5, 53);
        commitPut(x, 5, 54);
        CHECK.dueText("1 3 5 7 9", versions(x, 0));
        CHECK.due(2, x.clean());
        CHECK.dueText("3 5 9", versions(x, 0));
        CHECK.due(51, x.readAt(0, 5));
        CHECK.due(52, x.readAt(1, 5));
        x.drop(0);
        CHECK.due(1, x.clean());
        CHECK.dueText("5 9", versions(x, 0));
        x.drop(1);
        CHECK.due(1, x.clean());
        CHECK.due(0, x.clean());
        CHECK.due(54, x.value(5));

        term("takes away, of those that are committed");
        RiptideLedger open = new RiptideLedger();
        commitPut(open, 5, 50);
        own(open);
        open.put(1, 5, 51);
        open.remove(1, 5);
        CHECK.due(0, open.clean());
        CHECK.dueText("1 3 4", versions(open, 0));
        open.commit(1);
        CHECK.due(3, open.clean());

        term("each one that has no value, even if it is needed, if no version of its key with a lower number is in a page");
        RiptideLedger y = new RiptideLedger();
        commitPut(y, 5, 50);
        y.snapshot();
        commitRemove(y, 5);
        y.snapshot();
        // 50 is needed, and lower than the removal
        CHECK.due(0, y.clean());
        y.drop(0);
        // now it goes, and then the removal, which is needed by a snapshot and as the latest one
        CHECK.due(2, y.clean());
        CHECK.due(0, y.sizeOf(0));
        CHECK.dueThrow(NoSuchElementException.class, () -> y.readAt(1, 5));
        CHECK.dueThrow(NoSuchElementException.class, () -> y.value(5));
        // a removal that a snapshot sees, with a greater version, but with no lower one
        RiptideLedger greater = new RiptideLedger();
        commitPut(greater, 5, 50);
        commitRemove(greater, 5);
        greater.snapshot();
        commitPut(greater, 5, 51);
        CHECK.dueText("1 3 5", versions(greater, 0));
        CHECK.due(2, greater.clean());
        CHECK.dueText("5", versions(greater, 0));
        CHECK.dueThrow(NoSuchElementException.class, () -> greater.readAt(0, 5));
        // a version with a value that is needed stays, with or without a lower one
        commitPut(y, 5, 51);
        CHECK.due(0, y.clean());
        // a lower version of another key is none
        commitPut(y, 4, 40);
        commitPut(y, 6, 60);
        commitRemove(y, 6);
        CHECK.due(2, y.clean());

        term("by their numbers and through their versions in their order");
        RiptideLedger pages = Scenes.filled(10, 20, 30, 40, 50, 60, 61, 62, 1, 2, 3, 4);
        pages.commit(0);
        commitPut(pages, 60, 1);
        commitPut(pages, 20, 1);
        commitPut(pages, 1, 1);
        int end = pages.logLength();
        CHECK.dueText("0 40 10", pages.lowOf(0) + " " + pages.lowOf(1) + " " + pages.lowOf(2));
        CHECK.due(3, pages.clean());
        CHECK.dueText("0 1 2", pages.pageAt(end + 1) + " " + pages.pageAt(end + 2) + " " + pages.pageAt(end + 3));
    }

    // ---- marks and crashes

    private static void marks() {
        term("A mark has all pages that are dirty, with the records since which they are");
        RiptideLedger x = Scenes.filled(1, 2, 3, 4, 5, 6, 7);
        x.commit(0);
        x.force();
        x.writePage(0);
        CHECK.due(10, x.mark());
        x.force();
        x.crash(-1);
        // the page 1 is dirty since 7: from there on to the mark, 10
        CHECK.dueText("1 4 0 d", steps(x));
        x.force();
        x.writePage(1);
        x.mark();
        x.force();
        x.crash(-1);
        // no page is dirty at the mark
        CHECK.dueText("1 0 0 d", steps(x));

        term("and all transactions that have a version by a record 'i' and have not ended");
        RiptideLedger y = Scenes.with(6);
        for (int number = 0; number < 5; number++) {
            y.lock(number, number, number, true);
            y.put(number, number, 1);
        }
        y.lock(3, 2, 2, true);
        y.commit(0);
        y.abort(1);
        // live with a version: 2 and 4; waiting with one: 3; live without one: 5
        y.mark();
        y.force();
        y.crash(-1);
        stepsOf('a', y);
        stepsOf('r', y);
        CHECK.due(6, y.recover(99));
        CHECK.dueText("iiiiicuakuuuaaa", kinds(y));
        CHECK.dueText("4 3 2 2 3 4", y.transactionAt(10) + " " + y.transactionAt(11) + " " + y.transactionAt(12) + " "
                + y.transactionAt(13) + " " + y.transactionAt(14) + " " + y.transactionAt(15));
        // one that is lost and has its record 'a' has ended
        y.mark();
        y.force();
        y.writePage(0);
        y.mark();
        y.force();
        y.crash(-1);
        CHECK.dueText("1 0 0 d", steps(y));
    }

    private static void crashes() {
        term("all records that are not durable are lost");
        RiptideLedger x = Scenes.filled(1, 2);
        x.force();
        x.put(0, 3, 3);
        x.put(0, 4, 4);
        x.commit(0);
        CHECK.due(3, x.crash(-1));
        CHECK.dueText("ii", kinds(x));
        CHECK.due(2, x.durable());
        CHECK.due(0, x.crash(-1));
        CHECK.dueText("ii", kinds(x));
        RiptideLedger none = Scenes.filled(1, 2);
        CHECK.due(2, none.crash(-1));
        CHECK.dueText("", kinds(none));

        term("pages are as they were written last, and those that were never written, but the page 0, are not there");
        RiptideLedger y = Scenes.filled(1, 2, 3, 4, 5, 6, 7, 8, 9, 10);
        CHECK.due(3, y.pages());
        y.force();
        y.writePage(2);
        y.put(0, 10, 1);
        y.crash(-1);
        CHECK.due(2, y.pages());
        CHECK.due(0, y.sizeOf(0));
        CHECK.due(0, y.stampOf(0));
        CHECK.dueThrow(IndexOutOfBoundsException.class, () -> y.sizeOf(1));
        CHECK.dueText("7 8 9 10", keys(y, 2));
        CHECK.due(12, y.stampOf(2));
        CHECK.due(false, y.isDirty(2));

        term("All locks and snapshots are gone");
        RiptideLedger z = Scenes.with(2);
        z.lock(0, 5, 5, true);
        z.lock(1, 5, 5, true);
        z.snapshot();
        z.crash(-1);
        CHECK.due(0, z.locksOf(0));
        CHECK.dueThrow(IndexOutOfBoundsException.class, () -> z.drop(0));
        z.begin(0);
        CHECK.due('g', z.lock(2, 5, 5, true));

        term("a transaction that is not promised, and was not aborted, is lost");
        RiptideLedger states = Scenes.with(7);
        states.lock(0, 5, 5, true);
        states.lock(1, 5, 5, true);
        states.commit(2);
        states.abort(3);
        states.force();
        states.commit(4);
        CHECK.dueText("lwpacll", states(states, 7));

        term("so is one whose record of having been aborted is lost");
        states.abort(5);
        CHECK.dueText("lwpacal", states(states, 7));
        CHECK.due(2, states.crash(-1));
        CHECK.dueText("xxpaxxx", states(states, 7));
        // those that were aborted for a ring likewise
        RiptideLedger ring = each(2);
        ring.lock(0, 1, 1, true);
        ring.lock(1, 0, 0, true);
        CHECK.due('d', ring.stateOf(1));
        ring.crash(-1);
        CHECK.due('x', ring.stateOf(1));
        RiptideLedger durable = each(2);
        durable.lock(0, 1, 1, true);
        durable.lock(1, 0, 0, true);
        durable.force();
        durable.crash(-1);
        CHECK.dueText("xd", states(durable, 2));
        // a lost one stays lost, and is never live again
        Scenes.recovered(states);
        CHECK.dueText("xxpaxxx", states(states, 7));
        CHECK.dueThrow(IllegalStateException.class, () -> states.commit(6));
        CHECK.dueThrow(IllegalStateException.class, () -> states.abort(6));
    }

    private static void tornPages() {
        term("a dirty one with a durable stamp, can be torn");
        RiptideLedger x = Scenes.owned();
        CHECK.dueThrow(UnsupportedOperationException.class, () -> x.crash(0));
        x.put(0, 1, 1);
        CHECK.dueThrow(UnsupportedOperationException.class, () -> x.crash(0));
        x.force();
        x.mark();
        // a later record that is not durable does not matter, if it did not change the page
        CHECK.due(1, x.crash(0));
        RiptideLedger clean = Scenes.filled(1);
        clean.force();
        clean.writePage(0);
        CHECK.dueThrow(UnsupportedOperationException.class, () -> clean.crash(0));

        term("it is then as if it was never written");
        RiptideLedger y = Scenes.filled(1, 2, 3, 4, 5, 6, 7);
        y.commit(0);
        y.force();
        y.writePage(0);
        y.writePage(1);
        commitPut(y, 1, 10);
        commitPut(y, 7, 70);
        y.mark();
        y.force();
        y.crash(1);
        CHECK.due(1, y.pages());
        CHECK.dueText("1 2 3", keys(y, 0));
        RiptideLedger z = Scenes.filled(1, 2, 3, 4, 5, 6, 7);
        z.commit(0);
        z.force();
        z.writePage(0);
        z.writePage(1);
        commitPut(z, 1, 10);
        z.force();
        z.crash(0);
        // the page 0 is there even so, with nothing
        CHECK.due(2, z.pages());
        CHECK.dueText("0 0 0", z.sizeOf(0) + " " + z.stampOf(0) + " " + z.lowOf(0));

        term("or from the first one if a page is torn");
        CHECK.dueText("1 14 0 d", steps(y));
        CHECK.dueText("11 11 0 d", steps(z));
        CHECK.due(70, y.value(7));
        CHECK.due(10, z.value(1));

        term("A page is torn until it is written again");
        y.crash(-1);
        CHECK.due(1, y.pages());
        CHECK.dueText("1 14 0 d", steps(y));
        // another page that is written does not count
        y.writePage(0);
        y.crash(-1);
        CHECK.dueText("1 14 0 d", steps(y));
        y.writePage(1);
        y.crash(-1);
        CHECK.due(2, y.pages());
        // the mark, 14, has the page 0 dirty since 10, and the page 1 since 12
        CHECK.dueText("1 5 0 d", steps(y));
        CHECK.due(true, y.isSound());
        // two pages are torn: both must be written
        RiptideLedger two = Scenes.filled(1, 2, 3, 4, 5, 6, 7);
        two.commit(0);
        two.mark();
        two.force();
        two.crash(0);
        Scenes.recovered(two);
        two.crash(1);
        Scenes.recovered(two);
        two.writePage(0);
        two.crash(-1);
        CHECK.dueText("1 10 0 d", steps(two));
        two.writePage(1);
        two.mark();
        two.force();
        two.crash(-1);
        CHECK.dueText("1 0 0 d", steps(two));
        // it is written amid recovery
        RiptideLedger amid = Scenes.filled(1);
        amid.commit(0);
        amid.mark();
        amid.force();
        amid.crash(0);
        amid.recover(2);
        CHECK.due(1, amid.writePage(0));
        amid.crash(-1);
        CHECK.due(1, amid.sizeOf(0));
        CHECK.dueText("1 3 0 d", steps(amid));
        CHECK.due(1, amid.redone());
    }

    // ---- recovery

    private static void firstPhase() {
        term("from the last mark on, or from the first one if there is none, up to the last one");
        RiptideLedger none = Scenes.filled(1, 2);
        none.force();
        none.crash(-1);
        CHECK.due(2, stepsOf('a', none));
        RiptideLedger x = Scenes.filled(1, 2);
        x.mark();
        x.put(0, 3, 3);
        CHECK.due(5, x.mark());
        x.put(0, 4, 4);
        x.force();
        x.crash(-1);
        CHECK.due(2, stepsOf('a', x));
        // the mark as the last record, and as the only one
        RiptideLedger last = Scenes.filled(1);
        last.mark();
        last.force();
        last.crash(-1);
        CHECK.due(1, stepsOf('a', last));
        RiptideLedger only = new RiptideLedger();
        only.mark();
        only.force();
        only.crash(-1);
        CHECK.dueText("1 0 0 d", steps(only));
        // a mark that is lost: the one before it counts, or none
        RiptideLedger lost = Scenes.filled(1);
        lost.mark();
        lost.put(0, 2, 2);
        lost.force();
        lost.mark();
        CHECK.due(1, lost.crash(-1));
        CHECK.due(2, stepsOf('a', lost));
        RiptideLedger all = Scenes.filled(1, 2, 3);
        all.force();
        all.mark();
        CHECK.due(1, all.crash(-1));
        CHECK.due(3, stepsOf('a', all));

        term("an 'i' keeps its transaction; 'c' and 'a' take their transaction away");
        RiptideLedger y = Scenes.with(3);
        for (int number = 0; number < 3; number++) {
            y.lock(number, number, number, true);
            y.put(number, number, number);
        }
        y.commit(0);
        y.abort(1);
        y.force();
        y.crash(-1);
        CHECK.due(6, stepsOf('a', y));
        stepsOf('r', y);
        CHECK.due(2, stepsOf('u', y));
        CHECK.dueText("2 2", y.transactionAt(7) + " " + y.transactionAt(8));
        // taken away though the mark had them
        RiptideLedger marked = Scenes.with(2);
        for (int number = 0; number < 2; number++) {
            marked.lock(number, number, number, true);
            marked.put(number, number, number);
        }
        marked.mark();
        marked.commit(0);
        marked.abort(1);
        marked.force();
        marked.crash(-1);
        CHECK.dueText("4 6 0 d", steps(marked));
        // an 'i' behind the mark keeps a transaction that the mark has not
        RiptideLedger behind = Scenes.owned();
        behind.mark();
        behind.put(0, 1, 1);
        behind.force();
        behind.crash(-1);
        CHECK.dueText("2 1 2 d", steps(behind));

        term("'i', 's', 'u' and 'g' keep the pages that they changed, if they are not kept yet");
        pagesKept();
    }

    private static void pagesKept() {
        // 'i': since the first record behind the mark that changed the page, not since a later one
        RiptideLedger x = Scenes.filled(1);
        x.force();
        x.writePage(0);
        x.mark();
        x.put(0, 2, 2);
        x.put(0, 3, 3);
        x.commit(0);
        x.force();
        x.crash(-1);
        CHECK.dueText("4 3 0 d", steps(x));
        CHECK.due(2, x.redone());
        // since the record that the mark tells, not since one behind it
        RiptideLedger marked = Scenes.filled(1);
        marked.mark();
        marked.put(0, 2, 2);
        marked.commit(0);
        marked.force();
        marked.crash(-1);
        CHECK.dueText("3 4 0 d", steps(marked));
        // another page than the first one
        RiptideLedger other = Scenes.filled(1, 2, 3, 4, 5, 6, 7);
        other.commit(0);
        other.force();
        other.writePage(0);
        other.writePage(1);
        other.mark();
        commitPut(other, 7, 70);
        other.force();
        other.crash(-1);
        CHECK.dueText("3 2 0 d", steps(other));
        CHECK.due(1, other.redone());
        CHECK.due(70, other.value(7));
        // the last page, with the mark that has it
        RiptideLedger twelfth = Scenes.twelvePages();
        twelfth.commit(0);
        twelfth.force();
        for (int page = 0; page < 11; page++) {
            twelfth.writePage(page);
        }
        CHECK.due(52, twelfth.mark());
        twelfth.force();
        twelfth.crash(-1);
        CHECK.due(11, twelfth.pages());
        CHECK.dueText("1 6 0 d", steps(twelfth));
        CHECK.due(12, twelfth.pages());
        CHECK.due(38, twelfth.value(38));
        // 's': both pages
        RiptideLedger split = Scenes.filled(1, 2, 3, 4, 5, 6);
        split.force();
        split.writePage(0);
        split.mark();
        split.put(0, 7, 7);
        split.commit(0);
        split.force();
        split.writePage(0);
        split.crash(-1);
        CHECK.dueText("4 3 0 d", steps(split));
        CHECK.due(2, split.redone());
        CHECK.dueText("4 5 6 7", keys(split, 1));
        // 'u'
        RiptideLedger undone = Scenes.filled(1);
        undone.force();
        undone.writePage(0);
        undone.mark();
        undone.abort(0);
        undone.force();
        undone.crash(-1);
        CHECK.dueText("3 2 0 d", steps(undone));
        CHECK.due(1, undone.redone());
        CHECK.due(0, undone.sizeOf(0));
        // 'g'
        RiptideLedger cleaned = Scenes.filled(1, 1);
        cleaned.commit(0);
        cleaned.force();
        cleaned.writePage(0);
        cleaned.mark();
        cleaned.clean();
        cleaned.force();
        cleaned.crash(-1);
        CHECK.dueText("2 1 0 d", steps(cleaned));
        CHECK.due(1, cleaned.redone());
        CHECK.dueText("2", versions(cleaned, 0));
    }

    private static void secondPhase() {
        term("from the least one since which a page that is kept may be dirty on");
        RiptideLedger x = Scenes.filled(1, 2, 3, 4, 5, 6, 7);
        x.commit(0);
        x.force();
        x.writePage(0);
        x.writePage(1);
        commitPut(x, 7, 70);
        commitPut(x, 1, 10);
        CHECK.dueText("12 10", x.firstDirty(0) + " " + x.firstDirty(1));
        x.mark();
        x.force();
        x.crash(-1);
        CHECK.dueText("1 5 0 d", steps(x));

        term("if the page is not there, or has a lower stamp");
        // written with the stamp 2: the records 1 and 2 are not made again, 3 is
        RiptideLedger y = Scenes.filled(1, 2);
        y.force();
        y.writePage(0);
        y.put(0, 3, 3);
        y.commit(0);
        y.force();
        y.crash(-1);
        CHECK.due(4, stepsOf('a', y));
        y.recover(2);
        CHECK.due(0, y.redone());
        CHECK.dueText("1 2", versions(y, 0));
        y.recover(1);
        CHECK.due(1, y.redone());
        CHECK.dueText("1 2 3", versions(y, 0));
        CHECK.due(3, y.firstDirty(0));
        y.recover(1);
        CHECK.due(1, y.redone());

        term("a page that is not there has no versions, the low key 0 and the stamp 0 then");
        term("A page that was split loses its versions from the boundary on; the new one gets its low key and versions");
        RiptideLedger both = Scenes.filled(1, 2, 3, 4, 5, 6, 7);
        both.commit(0);
        both.force();
        both.crash(-1);
        CHECK.due(9, stepsOf('a', both));
        both.recover(6);
        CHECK.dueText("1 2 3 4 5 6", keys(both, 0));
        CHECK.dueThrow(IndexOutOfBoundsException.class, () -> both.lowOf(1));
        both.recover(1);
        CHECK.due(8, both.redone());
        CHECK.dueText("1 2 3 | 4 5 6", keys(both, 0) + " | " + keys(both, 1));
        CHECK.dueText("0 4 7 7", both.lowOf(0) + " " + both.lowOf(1) + " " + both.stampOf(0) + " " + both.stampOf(1));
        // the old page was written behind the split, the new one was not; and the other way round
        RiptideLedger oldOnly = Scenes.filled(1, 2, 3, 4, 5, 6, 7);
        oldOnly.commit(0);
        oldOnly.force();
        oldOnly.writePage(0);
        oldOnly.crash(-1);
        CHECK.dueText("9 9 0 d", steps(oldOnly));
        CHECK.due(2, oldOnly.redone());
        CHECK.dueText("4 5 6 7", keys(oldOnly, 1));
        CHECK.due(false, oldOnly.isDirty(0));
        RiptideLedger newOnly = Scenes.filled(1, 2, 3, 4, 5, 6, 7);
        newOnly.commit(0);
        newOnly.force();
        newOnly.writePage(1);
        newOnly.crash(-1);
        CHECK.dueText("9 9 0 d", steps(newOnly));
        CHECK.due(7, newOnly.redone());
        CHECK.dueText("1 2 3", keys(newOnly, 0));
        CHECK.due(false, newOnly.isDirty(1));
        CHECK.due(true, newOnly.isSound());
    }

    /** A page that was torn and written half remade can lack versions when it is split once more. */
    private static void splitOfWhatIsLacking() {
        term("loses its versions from the boundary on; the new one gets its low key and the versions that it got then");
        RiptideLedger x = Scenes.filled(1, 2, 3, 9, 20);
        x.commit(0);
        x.force();
        x.writePage(0);
        CHECK.due(7, x.mark());
        own(x);
        x.put(1, 30, 30);
        CHECK.due(10, x.put(1, 5, 5));
        CHECK.due(9, x.lowOf(1));
        x.commit(1);
        x.force();
        x.crash(0);
        x.recover(5 + 3);
        CHECK.dueText("1 2 3", keys(x, 0));
        x.writePage(0);
        x.crash(-1);
        CHECK.due(5, stepsOf('a', x));
        x.recover(1);
        // 8 is made again; 4, of the key 9, and 5, of the key 20, are not
        CHECK.dueText("1 2 3 30", keys(x, 0));
        x.recover(1);
        CHECK.dueText("1 2 3 | 9 20 30", keys(x, 0) + " | " + keys(x, 1));
        x.recover(2);
        CHECK.due('d', x.phase());
        CHECK.due(true, x.isSound());
    }

    private static void thirdPhase() {
        term("undoes the version with the greatest number of those in pages of transactions that are kept");
        RiptideLedger x = Scenes.with(3);
        for (int number = 0; number < 3; number++) {
            x.lock(number, number * 10, number * 10 + 9, true);
        }
        x.put(1, 10, 1);
        x.put(2, 20, 2);
        x.put(0, 0, 3);
        x.put(1, 11, 4);
        x.commit(2);
        x.force();
        x.crash(-1);
        stepsOf('a', x);
        stepsOf('r', x);
        x.recover(1);
        CHECK.dueText("3 1 2", versions(x, 0));
        x.recover(1);
        CHECK.dueText("1 2", versions(x, 0));
        x.recover(1);
        CHECK.dueText("2", versions(x, 0));
        CHECK.dueText("1 0 1", x.transactionAt(6) + " " + x.transactionAt(7) + " " + x.transactionAt(8));
        CHECK.due(8, x.logLength());

        term("if there is none, it writes a record 'a' for the one with the lowest number of these transactions");
        x.recover(1);
        CHECK.dueText("a 0 u", x.kindAt(9) + " " + x.transactionAt(9) + " " + x.phase());
        x.recover(1);
        CHECK.dueText("a 1 d", x.kindAt(10) + " " + x.transactionAt(10) + " " + x.phase());
        CHECK.due(3, x.undone());
        // kept, but all its versions were undone before the crash: the record 'a' alone
        RiptideLedger undone = Scenes.filled(1);
        undone.force();
        undone.crash(-1);
        CHECK.due(3, undone.recover(3));
        undone.force();
        undone.crash(-1);
        CHECK.dueText("2 2 1 d", steps(undone));
        CHECK.dueText("iua", kinds(undone));
        CHECK.due(1, undone.undone());
        // the record 'a' of the last step was not durable: it is written once more
        undone.crash(-1);
        CHECK.dueText("2 2 1 d", steps(undone));
        undone.force();
        undone.crash(-1);
        CHECK.dueText("3 3 0 d", steps(undone));

        term("Then the store is up, 'd', as at first");
        own(undone);
        CHECK.due(4, undone.put(1, 1, 1));
        CHECK.due(5, undone.commit(1));
        CHECK.due(1, undone.value(1));
    }

    private static void phasesWithoutSteps() {
        term("when one has no step to make, or no step any more, the next one begins at once");
        // an empty log: no phase has a step
        RiptideLedger empty = new RiptideLedger();
        CHECK.due(0, empty.crash(-1));
        CHECK.due('d', empty.phase());
        CHECK.dueThrow(IllegalStateException.class, () -> empty.recover(1));
        RiptideLedger undurable = Scenes.filled(1, 2);
        CHECK.due(2, undurable.crash(-1));
        CHECK.due('d', undurable.phase());
        CHECK.due(1, undurable.begin(0));
        CHECK.dueThrow(NoSuchElementException.class, () -> undurable.value(1));
        CHECK.due(0, undurable.sizeOf(0));
        // one record that is durable: there is a first phase
        RiptideLedger forced = Scenes.filled(1);
        forced.force();
        forced.put(0, 2, 2);
        CHECK.due(1, forced.crash(-1));
        CHECK.due('a', forced.phase());
        // no page is kept and none is torn: no second phase; no transaction is kept: no third one
        RiptideLedger ended = new RiptideLedger();
        ended.begin(0);
        ended.commit(0);
        ended.force();
        ended.crash(-1);
        CHECK.due('a', ended.phase());
        CHECK.due(1, ended.recover(1));
        CHECK.due('d', ended.phase());
        // no second phase, but a third one
        RiptideLedger alive = Scenes.filled(1);
        alive.force();
        alive.writePage(0);
        alive.mark();
        alive.force();
        alive.crash(-1);
        CHECK.due(1, alive.recover(1));
        CHECK.due('u', alive.phase());
        CHECK.due(2, alive.recover(99));
        // a second phase, but no third one
        RiptideLedger done = Scenes.filled(1);
        done.commit(0);
        done.force();
        done.crash(-1);
        CHECK.due(2, done.recover(2));
        CHECK.due('r', done.phase());
        CHECK.due(2, done.recover(2));
        CHECK.due('d', done.phase());
        // the steps end with the store up, however many are asked for
        RiptideLedger many = Scenes.filled(1);
        many.force();
        many.crash(-1);
        CHECK.due(4, many.recover(99));
        CHECK.due('d', many.phase());
        RiptideLedger exact = Scenes.filled(1);
        exact.force();
        exact.crash(-1);
        CHECK.due(3, exact.recover(3));
        CHECK.due('u', exact.phase());
        CHECK.due(1, exact.recover(1));
        CHECK.due('d', exact.phase());
        // a crash in each phase: the first one begins again
        for (int made = 0; made < 4; made++) {
            RiptideLedger again = Scenes.filled(1);
            again.force();
            again.crash(-1);
            for (int count = 0; count < made; count++) {
                again.recover(1);
            }
            again.crash(-1);
            CHECK.due('a', again.phase());
            CHECK.dueText("1 1 2 d", steps(again));
            CHECK.dueText("iua", kinds(again));
        }
    }

    // ---- the replica

    private static void replica() {
        term("It follows the log record by record, as far as this is durable");
        RiptideLedger x = Scenes.filled(5);
        x.commit(0);
        CHECK.due(0, x.follow(99));
        x.force();
        x.mark();
        CHECK.due(1, x.follow(1));
        CHECK.due(1, x.follow(2));
        // it has followed all that is durable
        CHECK.due(0, x.follow(1));
        CHECK.due(0, x.follow(99));
        CHECK.due(2, x.replicaAt());
        x.force();
        CHECK.due(1, x.follow(99));
        CHECK.due(3, x.replicaAt());

        term("which transactions are committed by such");
        RiptideLedger y = Scenes.filled(5);
        y.put(0, 5, 6);
        y.commit(0);
        y.force();
        y.follow(2);
        CHECK.dueThrow(NoSuchElementException.class, () -> y.readPinned(-1, 5));
        y.follow(1);
        CHECK.due(6, y.readPinned(-1, 5));

        term("were not undone by such");
        RiptideLedger undone = new RiptideLedger();
        commitPut(undone, 5, 50);
        own(undone);
        undone.put(1, 5, 51);
        undone.abort(1);
        undone.force();
        for (int at = 1; at <= 5; at++) {
            undone.follow(1);
            if (at > 1) {
                CHECK.due(50, undone.readPinned(-1, 5));
            }
        }

        term("it does not care for the cleaner");
        RiptideLedger cleaned = new RiptideLedger();
        commitPut(cleaned, 5, 50);
        commitPut(cleaned, 5, 51);
        cleaned.clean();
        commitRemove(cleaned, 5);
        cleaned.clean();
        cleaned.force();
        CHECK.dueText("icicgicgg", kinds(cleaned));
        cleaned.follow(2);
        CHECK.due(50, cleaned.readPinned(-1, 5));
        cleaned.follow(2);
        CHECK.due(51, cleaned.readPinned(-1, 5));
        cleaned.follow(1);
        CHECK.due(51, cleaned.readPinned(-1, 5));
        cleaned.pin();
        cleaned.follow(4);
        CHECK.dueThrow(NoSuchElementException.class, () -> cleaned.readPinned(-1, 5));

        term("a pin sees what the replica saw when it was pinned");
        CHECK.due(51, cleaned.readPinned(0, 5));
        RiptideLedger pinned = new RiptideLedger();
        commitPut(pinned, 5, 50);
        pinned.force();
        CHECK.due(0, pinned.pin());
        pinned.follow(2);
        CHECK.due(1, pinned.pin());
        commitPut(pinned, 5, 51);
        pinned.force();
        pinned.follow(1);
        CHECK.due(2, pinned.pin());
        pinned.follow(1);
        CHECK.dueThrow(NoSuchElementException.class, () -> pinned.readPinned(0, 5));
        CHECK.due(50, pinned.readPinned(1, 5));
        CHECK.due(50, pinned.readPinned(2, 5));
        CHECK.due(51, pinned.readPinned(-1, 5));

        term("A crash of the store changes nothing on the replica");
        own(pinned);
        pinned.put(2, 5, 52);
        pinned.crash(-1);
        CHECK.due(4, pinned.replicaAt());
        CHECK.dueThrow(NoSuchElementException.class, () -> pinned.readPinned(0, 5));
        CHECK.due(50, pinned.readPinned(1, 5));
        CHECK.due(51, pinned.readPinned(-1, 5));
        CHECK.due(0, pinned.follow(99));
        CHECK.due(3, pinned.pin());
        Scenes.recovered(pinned);
        // the number of a record that was lost comes again, with another version
        CHECK.due(5, commitPut(pinned, 5, 53));
        CHECK.due(51, pinned.readPinned(-1, 5));
        pinned.force();
        pinned.follow(99);
        CHECK.due(53, pinned.readPinned(-1, 5));
        CHECK.due(51, pinned.readPinned(3, 5));
    }
}
