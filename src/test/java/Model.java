import java.util.ArrayDeque;
import java.util.ArrayList;
import java.util.Deque;
import java.util.HashMap;
import java.util.HashSet;
import java.util.List;
import java.util.Map;
import java.util.NoSuchElementException;
import java.util.Objects;
import java.util.Set;
import java.util.TreeMap;
import java.util.TreeSet;

/**
 * The document told a second time, in another way, for ModelTest: snapshots and pins are copies of what they saw,
 * the replica is a store of its own, pages hold objects, and rings are found by walking.
 */
final class Model {
    private record Version(int number, int key, int value, int owner) { }

    private static final class Rec {
        char kind;
        int owner = -1;
        int page = -1;
        Version version;
        int newPage = -1;
        int boundary;
        List<Version> moved;
        Map<Integer, Integer> dirty;
        Set<Integer> alive;
    }

    private static final class Sheet {
        int low;
        int stamp;
        int since;
        List<Version> versions = new ArrayList<>();

        Sheet copyClean() {
            Sheet copy = new Sheet();
            copy.low = low;
            copy.stamp = stamp;
            copy.versions = new ArrayList<>(versions);
            return copy;
        }

        void add(Version version) {
            int at = 0;
            while (at < versions.size() && compare(versions.get(at), version) < 0) {
                at++;
            }
            versions.add(at, version);
        }
    }

    private record Range(int low, int high, boolean exclusive) {
        boolean hinders(Range other) {
            return low <= other.high && other.low <= high && (exclusive || other.exclusive);
        }
    }

    private static final class Deal {
        int user;
        char state = 'l';
        int end;
        boolean wrote;
        List<Range> locks = new ArrayList<>();
        Range wanted;
    }

    private final List<Rec> log = new ArrayList<>();
    private int durable;
    private TreeMap<Integer, Sheet> cache = new TreeMap<>();
    private final TreeMap<Integer, Sheet> disk = new TreeMap<>();
    private final Set<Integer> torn = new HashSet<>();
    private final List<Deal> deals = new ArrayList<>();
    private final List<Integer> queue = new ArrayList<>();
    private final int[] quota = {99, 99, 99, 99};
    private final TreeMap<Integer, Map<Integer, Integer>> snapshots = new TreeMap<>();
    private int snapshotsTaken;
    private char phase = 'd';
    private int next;
    private final TreeMap<Integer, Integer> maybeDirty = new TreeMap<>();
    private final TreeSet<Integer> maybeAlive = new TreeSet<>();
    private int followed;
    private final Map<Integer, Version> replicaVersions = new TreeMap<>();
    private final Set<Integer> replicaCommitted = new HashSet<>();
    private final List<Map<Integer, Integer>> pins = new ArrayList<>();
    private long grants;
    private long writes;
    private int undoneCount;
    private int redoneCount;

    Model() {
        cache.put(0, new Sheet());
        disk.put(0, new Sheet());
    }

    private static int compare(Version a, Version b) {
        return a.key != b.key ? Integer.compare(a.key, b.key) : Integer.compare(a.number, b.number);
    }

    private static void need(boolean good, RuntimeException otherwise) {
        if (!good) {
            throw otherwise;
        }
    }

    private static void needKey(int key) {
        need(key >= 0 && key <= 63, new IllegalArgumentException());
    }

    private void needUp() {
        need(phase == 'd', new IllegalStateException());
    }

    private Deal deal(int number) {
        need(number >= 0 && number < deals.size(), new IndexOutOfBoundsException());
        return deals.get(number);
    }

    private Sheet sheet(int page) {
        need(cache.containsKey(page), new IndexOutOfBoundsException());
        return cache.get(page);
    }

    private int write(Rec rec) {
        log.add(rec);
        return log.size();
    }

    private static void touch(Sheet sheet, int number) {
        sheet.stamp = number;
        if (sheet.since == 0) {
            sheet.since = number;
        }
    }

    // ---- transactions and locks

    public int begin(int user) {
        need(user >= 0 && user <= 3, new IllegalArgumentException());
        needUp();
        need(deals.size() < 60, new IllegalStateException());
        Deal deal = new Deal();
        deal.user = user;
        deals.add(deal);
        return deals.size() - 1;
    }

    private Set<Integer> blockers(int number) {
        TreeSet<Integer> found = new TreeSet<>();
        Range wanted = deals.get(number).wanted;
        if (wanted == null) {
            return found;
        }
        for (int other = 0; other < deals.size(); other++) {
            for (Range held : deals.get(other).locks) {
                if (other != number && held.hinders(wanted)) {
                    found.add(other);
                }
            }
        }
        return found;
    }

    private Set<Integer> walk(int start) {
        Set<Integer> seen = new TreeSet<>();
        Deque<Integer> open = new ArrayDeque<>(blockers(start));
        while (!open.isEmpty()) {
            int at = open.pop();
            if (seen.add(at)) {
                open.addAll(blockers(at));
            }
        }
        return seen;
    }

    public char lock(int transaction, int low, int high, boolean isExclusive) {
        Deal deal = deal(transaction);
        needKey(low);
        needKey(high);
        need(low <= high, new IllegalArgumentException());
        needUp();
        need(deal.state == 'l' && deal.locks.size() < 8, new IllegalStateException());
        deal.wanted = new Range(low, high, isExclusive);
        if (blockers(transaction).isEmpty()) {
            deal.locks.add(deal.wanted);
            deal.wanted = null;
            return 'g';
        }
        deal.state = 'w';
        queue.add(transaction);
        while (deal.state == 'w' && walk(transaction).contains(transaction)) {
            int victim = -1;
            for (int other : walk(transaction)) {
                if (walk(other).contains(transaction)) {
                    victim = Math.max(victim, other);
                }
            }
            kill(victim, 'd');
        }
        return deal.state == 'w' ? 'w' : deal.state == 'd' ? 'd' : 'g';
    }

    private void leave(int number) {
        Deal deal = deals.get(number);
        deal.locks.clear();
        deal.wanted = null;
        queue.remove((Integer) number);
        for (Integer other : new ArrayList<>(queue)) {
            if (blockers(other).isEmpty()) {
                Deal woken = deals.get(other);
                woken.locks.add(woken.wanted);
                woken.wanted = null;
                woken.state = 'l';
                queue.remove(other);
                grants++;
            }
        }
    }

    private boolean undoOne(Set<Integer> owners) {
        int bestPage = -1;
        Version best = null;
        for (Map.Entry<Integer, Sheet> entry : cache.entrySet()) {
            for (Version version : entry.getValue().versions) {
                if (owners.contains(version.owner) && (best == null || version.number > best.number)) {
                    best = version;
                    bestPage = entry.getKey();
                }
            }
        }
        if (best == null) {
            return false;
        }
        drop('u', bestPage, best);
        undoneCount++;
        return true;
    }

    private void drop(char kind, int page, Version version) {
        Rec rec = new Rec();
        rec.kind = kind;
        rec.owner = kind == 'u' ? version.owner : -1;
        rec.page = page;
        rec.version = version;
        int number = write(rec);
        cache.get(page).versions.remove(version);
        touch(cache.get(page), number);
    }

    private int close(char kind, int owner) {
        Rec rec = new Rec();
        rec.kind = kind;
        rec.owner = owner;
        return write(rec);
    }

    private int kill(int number, char state) {
        int count = 0;
        while (undoOne(Set.of(number))) {
            count++;
        }
        deals.get(number).state = state;
        deals.get(number).end = close('a', number);
        leave(number);
        return count;
    }

    public int locksOf(int transaction) {
        return deal(transaction).locks.size();
    }

    public int waitsFor(int transaction) {
        need(deal(transaction).state == 'w', new NoSuchElementException());
        return blockers(transaction).iterator().next();
    }

    private void needWriter(int transaction, int key) {
        Deal deal = deals.get(transaction);
        needUp();
        need(deal.state == 'l', new IllegalStateException());
        boolean covered = false;
        for (Range range : deal.locks) {
            covered |= range.exclusive && range.low <= key && key <= range.high;
        }
        need(covered, new UnsupportedOperationException());
        need(versionsOf(deal.user) < quota[deal.user], new UnsupportedOperationException());
        Sheet sheet = cache.get(home(key));
        if (sheet.versions.size() >= 6) {
            need(boundary(sheet) != null && cache.size() < 12, new UnsupportedOperationException());
        }
    }

    private static Integer boundary(Sheet sheet) {
        int first = sheet.versions.get(0).key;
        int middle = sheet.versions.get(3).key;
        if (middle != first) {
            return middle;
        }
        for (Version version : sheet.versions) {
            if (version.key > first) {
                return version.key;
            }
        }
        return null;
    }

    private int home(int key) {
        int best = -1;
        for (int page : cache.keySet()) {
            int low = cache.get(page).low;
            if (low <= key && (best < 0 || low > cache.get(best).low)) {
                best = page;
            }
        }
        return best;
    }

    private int store(int transaction, int key, int value) {
        int page = home(key);
        if (cache.get(page).versions.size() >= 6) {
            splitSheet(page);
            page = home(key);
        }
        Rec rec = new Rec();
        rec.kind = 'i';
        rec.owner = transaction;
        rec.page = page;
        int number = write(rec);
        rec.version = new Version(number, key, value, transaction);
        cache.get(page).add(rec.version);
        touch(cache.get(page), number);
        deals.get(transaction).wrote = true;
        return number;
    }

    private void splitSheet(int page) {
        Sheet old = cache.get(page);
        Rec rec = new Rec();
        rec.kind = 's';
        rec.page = page;
        rec.newPage = cache.size();
        rec.boundary = boundary(old);
        rec.moved = new ArrayList<>();
        for (Version version : old.versions) {
            if (version.key >= rec.boundary) {
                rec.moved.add(version);
            }
        }
        old.versions.removeAll(rec.moved);
        int number = write(rec);
        Sheet fresh = new Sheet();
        fresh.low = rec.boundary;
        fresh.versions.addAll(rec.moved);
        cache.put(rec.newPage, fresh);
        touch(old, number);
        touch(fresh, number);
    }

    public int put(int transaction, int key, int value) {
        deal(transaction);
        needKey(key);
        need(value >= 0 && value <= 9999, new IllegalArgumentException());
        needWriter(transaction, key);
        return store(transaction, key, value);
    }

    public int remove(int transaction, int key) {
        deal(transaction);
        needKey(key);
        needWriter(transaction, key);
        valueFor(key, transaction);
        return store(transaction, key, -1);
    }

    private boolean committed(int owner) {
        return deals.get(owner).state == 'c';
    }

    private Version latest(int key, int reader) {
        Version best = null;
        for (Version version : cache.get(home(key)).versions) {
            boolean seen = version.owner == reader || committed(version.owner);
            if (version.key == key && seen && (best == null || best.number < version.number)) {
                best = version;
            }
        }
        return best;
    }

    private int valueFor(int key, int reader) {
        Version best = latest(key, reader);
        need(best != null && best.value >= 0, new NoSuchElementException());
        return best.value;
    }

    public int read(int transaction, int key) {
        Deal deal = deal(transaction);
        needKey(key);
        needUp();
        need(deal.state == 'l', new IllegalStateException());
        boolean covered = false;
        for (Range range : deal.locks) {
            covered |= range.low <= key && key <= range.high;
        }
        need(covered, new UnsupportedOperationException());
        return valueFor(key, transaction);
    }

    public int commit(int transaction) {
        Deal deal = deal(transaction);
        needUp();
        need(deal.state == 'l', new IllegalStateException());
        deal.state = 'c';
        deal.end = close('c', transaction);
        leave(transaction);
        return deal.end;
    }

    public int abort(int transaction) {
        Deal deal = deal(transaction);
        needUp();
        need(deal.state == 'l' || deal.state == 'w', new IllegalStateException());
        return kill(transaction, 'a');
    }

    public char stateOf(int transaction) {
        Deal deal = deal(transaction);
        return deal.state == 'c' && deal.end <= durable ? 'p' : deal.state;
    }

    public int promised() {
        int count = 0;
        for (int number = 0; number < deals.size(); number++) {
            count += stateOf(number) == 'p' ? 1 : 0;
        }
        return count;
    }

    public long woken() {
        return grants;
    }

    // ---- quotas, snapshots, cleaning

    public int setQuota(int user, int versions) {
        need(user >= 0 && user <= 3 && versions >= 0 && versions <= 99, new IllegalArgumentException());
        int before = quota[user];
        quota[user] = versions;
        return before;
    }

    public int versionsOf(int user) {
        need(user >= 0 && user <= 3, new IllegalArgumentException());
        int count = 0;
        for (Sheet sheet : cache.values()) {
            for (Version version : sheet.versions) {
                count += deals.get(version.owner).user == user ? 1 : 0;
            }
        }
        return count;
    }

    public int snapshot() {
        needUp();
        need(snapshots.size() < 6, new IllegalStateException());
        Map<Integer, Integer> seen = new HashMap<>();
        for (int key = 0; key < 64; key++) {
            Version best = latest(key, -1);
            if (best != null) {
                seen.put(key, best.number);
            }
        }
        snapshots.put(snapshotsTaken, seen);
        return snapshotsTaken++;
    }

    public int readAt(int snapshot, int key) {
        need(snapshots.containsKey(snapshot), new IndexOutOfBoundsException());
        needKey(key);
        needUp();
        Integer number = snapshots.get(snapshot).get(key);
        need(number != null, new NoSuchElementException());
        int value = log.get(number - 1).version.value;
        need(value >= 0, new NoSuchElementException());
        return value;
    }

    public int drop(int snapshot) {
        need(snapshots.containsKey(snapshot), new IndexOutOfBoundsException());
        snapshots.remove(snapshot);
        return snapshots.size();
    }

    public int clean() {
        needUp();
        Set<Integer> needed = new HashSet<>();
        for (Map<Integer, Integer> seen : snapshots.values()) {
            needed.addAll(seen.values());
        }
        for (int key = 0; key < 64; key++) {
            Version best = latest(key, -1);
            if (best != null) {
                needed.add(best.number);
            }
        }
        int count = 0;
        for (int page : cache.keySet()) {
            for (Version version : new ArrayList<>(cache.get(page).versions)) {
                boolean idle = version.value < 0 && lowest(version.key) == version.number;
                if (committed(version.owner) && (!needed.contains(version.number) || idle)) {
                    drop('g', page, version);
                    count++;
                }
            }
        }
        return count;
    }

    private int lowest(int key) {
        int least = Integer.MAX_VALUE;
        for (Sheet sheet : cache.values()) {
            for (Version version : sheet.versions) {
                least = version.key == key ? Math.min(least, version.number) : least;
            }
        }
        return least;
    }

    public int value(int key) {
        needKey(key);
        needUp();
        return valueFor(key, -1);
    }

    private Map<Integer, Integer> replay() {
        Map<Integer, Integer> found = new HashMap<>();
        Set<Integer> done = new HashSet<>();
        for (Rec rec : log) {
            if (rec.kind == 'c') {
                done.add(rec.owner);
            }
        }
        for (Rec rec : log) {
            if (rec.kind == 'i' && done.contains(rec.owner)) {
                found.put(rec.version.key, rec.version.value < 0 ? null : (Integer) rec.version.value);
            }
        }
        return found;
    }

    // ---- what ModelTest asks to make its calls likely ones

    int begun() {
        return deals.size();
    }

    /** The transactions in a state. */
    List<Integer> thoseIn(char state) {
        List<Integer> found = new ArrayList<>();
        for (int number = 0; number < deals.size(); number++) {
            if (deals.get(number).state == state) {
                found.add(number);
            }
        }
        return found;
    }

    /** The ranges that a transaction has locked, as lowest and highest keys. */
    List<int[]> rangesOf(int transaction) {
        List<int[]> found = new ArrayList<>();
        if (transaction >= 0 && transaction < deals.size()) {
            for (Range range : deals.get(transaction).locks) {
                found.add(new int[] {range.low, range.high});
            }
        }
        return found;
    }

    public int valueByReplay(int key) {
        needKey(key);
        needUp();
        Integer found = replay().get(key);
        need(found != null, new NoSuchElementException());
        return found;
    }

    // ---- log and pages

    public int force() {
        int count = log.size() - durable;
        durable = log.size();
        return count;
    }

    public int mark() {
        needUp();
        Rec rec = new Rec();
        rec.kind = 'k';
        rec.dirty = new TreeMap<>();
        for (Map.Entry<Integer, Sheet> entry : cache.entrySet()) {
            if (entry.getValue().since > 0) {
                rec.dirty.put(entry.getKey(), entry.getValue().since);
            }
        }
        rec.alive = new TreeSet<>();
        for (int number = 0; number < deals.size(); number++) {
            Deal deal = deals.get(number);
            if ((deal.state == 'l' || deal.state == 'w') && deal.wrote) {
                rec.alive.add(number);
            }
        }
        return write(rec);
    }

    public int logLength() {
        return log.size();
    }

    public int durable() {
        return durable;
    }

    private Rec rec(int number) {
        need(number >= 1 && number <= log.size(), new IndexOutOfBoundsException());
        return log.get(number - 1);
    }

    public char kindAt(int number) {
        return rec(number).kind;
    }

    public int transactionAt(int number) {
        need("iuca".indexOf(rec(number).kind) >= 0, new NoSuchElementException());
        return rec(number).owner;
    }

    public int pageAt(int number) {
        need("isug".indexOf(rec(number).kind) >= 0, new NoSuchElementException());
        return rec(number).page;
    }

    public int writePage(int page) {
        Sheet sheet = sheet(page);
        need(sheet.since > 0, new IllegalStateException());
        need(sheet.stamp <= durable, new UnsupportedOperationException());
        disk.put(page, sheet.copyClean());
        torn.remove(page);
        sheet.since = 0;
        writes++;
        return sheet.stamp;
    }

    public boolean isDirty(int page) {
        return sheet(page).since > 0;
    }

    public int firstDirty(int page) {
        need(sheet(page).since > 0, new IllegalStateException());
        return sheet(page).since;
    }

    public int stampOf(int page) {
        return sheet(page).stamp;
    }

    public int pages() {
        return cache.size();
    }

    public int pageOf(int key) {
        needKey(key);
        needUp();
        return home(key);
    }

    public int lowOf(int page) {
        return sheet(page).low;
    }

    public int sizeOf(int page) {
        return sheet(page).versions.size();
    }

    private Version version(int page, int index) {
        List<Version> versions = sheet(page).versions;
        need(index >= 0 && index < versions.size(), new NoSuchElementException());
        return versions.get(index);
    }

    public int versionAt(int page, int index) {
        return version(page, index).number;
    }

    public int keyAt(int page, int index) {
        return version(page, index).key;
    }

    public int valueAt(int page, int index) {
        return version(page, index).value;
    }

    // ---- crash, recovery, replica

    public int crash(int tornPage) {
        if (tornPage != -1) {
            need(cache.containsKey(tornPage), new IllegalArgumentException());
            Sheet sheet = cache.get(tornPage);
            need(sheet.since > 0 && sheet.stamp <= durable, new UnsupportedOperationException());
            disk.remove(tornPage);
            if (tornPage == 0) {
                disk.put(0, new Sheet());
            }
            torn.add(tornPage);
        }
        int lost = log.size() - durable;
        log.subList(durable, log.size()).clear();
        cache = new TreeMap<>();
        for (Map.Entry<Integer, Sheet> entry : disk.entrySet()) {
            cache.put(entry.getKey(), entry.getValue().copyClean());
        }
        for (Deal deal : deals) {
            deal.locks.clear();
            deal.wanted = null;
            if (deal.end == 0 || deal.end > durable) {
                deal.state = 'x';
                deal.end = 0;
            }
        }
        queue.clear();
        snapshots.clear();
        phase = 'a';
        next = 1;
        for (int number = 1; number <= log.size(); number++) {
            next = log.get(number - 1).kind == 'k' ? number : next;
        }
        maybeAlive.clear();
        maybeDirty.clear();
        advance();
        return lost;
    }

    private void advance() {
        if (phase == 'a' && next > log.size()) {
            phase = 'r';
            next = log.size() + 1;
            for (int since : maybeDirty.values()) {
                next = Math.min(next, since);
            }
            next = torn.isEmpty() ? next : 1;
        }
        if (phase == 'r' && next > log.size()) {
            phase = 'u';
        }
        if (phase == 'u' && maybeAlive.isEmpty()) {
            phase = 'd';
        }
    }

    public int recover(int steps) {
        need(steps >= 1 && steps <= 99, new IllegalArgumentException());
        need(phase != 'd', new IllegalStateException());
        int count = 0;
        while (count < steps && phase != 'd') {
            step();
            count++;
            advance();
        }
        return count;
    }

    private void step() {
        switch (phase) {
            case 'a':
                look(next, log.get(next - 1));
                next++;
                break;
            case 'r':
                again(next, log.get(next - 1));
                next++;
                break;
            default:
                if (!undoOne(maybeAlive)) {
                    close('a', maybeAlive.first());
                    maybeAlive.remove(maybeAlive.first());
                }
        }
    }

    private void look(int number, Rec rec) {
        switch (rec.kind) {
            case 'k':
                maybeDirty.putAll(rec.dirty);
                maybeAlive.addAll(rec.alive);
                break;
            case 'c':
            case 'a':
                maybeAlive.remove(rec.owner);
                break;
            case 's':
                maybeDirty.putIfAbsent(rec.page, number);
                maybeDirty.putIfAbsent(rec.newPage, number);
                break;
            case 'i':
                maybeAlive.add(rec.owner);
                maybeDirty.putIfAbsent(rec.page, number);
                break;
            default:
                maybeDirty.putIfAbsent(rec.page, number);
        }
    }

    private void again(int number, Rec rec) {
        if ("isug".indexOf(rec.kind) < 0) {
            return;
        }
        Sheet sheet = cache.computeIfAbsent(rec.page, page -> new Sheet());
        if (sheet.stamp < number) {
            redoneCount++;
            touch(sheet, number);
            switch (rec.kind) {
                case 'i':
                    sheet.add(rec.version);
                    break;
                case 's':
                    sheet.versions.removeIf(version -> version.key >= rec.boundary);
                    break;
                default:
                    sheet.versions.remove(rec.version);
            }
        }
        if (rec.kind == 's') {
            Sheet fresh = cache.computeIfAbsent(rec.newPage, page -> new Sheet());
            if (fresh.stamp < number) {
                redoneCount++;
                touch(fresh, number);
                fresh.low = rec.boundary;
                fresh.versions = new ArrayList<>(rec.moved);
            }
        }
    }

    public char phase() {
        return phase;
    }

    public int redone() {
        return redoneCount;
    }

    public int undone() {
        return undoneCount;
    }

    public int follow(int records) {
        need(records >= 1 && records <= 99, new IllegalArgumentException());
        int count = 0;
        while (count < records && followed < durable) {
            Rec rec = log.get(followed++);
            count++;
            if (rec.kind == 'i') {
                replicaVersions.put(rec.version.number, rec.version);
            } else if (rec.kind == 'u') {
                replicaVersions.remove(rec.version.number);
            } else if (rec.kind == 'c') {
                replicaCommitted.add(rec.owner);
            }
        }
        return count;
    }

    public int replicaAt() {
        return followed;
    }

    private Map<Integer, Integer> replicaView() {
        Map<Integer, Integer> view = new HashMap<>();
        for (Version version : replicaVersions.values()) {
            if (replicaCommitted.contains(version.owner)) {
                view.put(version.key, version.value);
            }
        }
        return view;
    }

    public int pin() {
        need(pins.size() < 6, new IllegalStateException());
        pins.add(replicaView());
        return pins.size() - 1;
    }

    public int readPinned(int pin, int key) {
        need(pin >= -1 && pin < pins.size(), new IndexOutOfBoundsException());
        needKey(key);
        int value = (pin < 0 ? replicaView() : pins.get(pin)).getOrDefault(key, -1);
        need(value >= 0, new NoSuchElementException());
        return value;
    }

    // ---- figures

    public long pagesWritten() {
        return writes;
    }

    public float dirtyShare() {
        int dirty = 0;
        for (Sheet sheet : cache.values()) {
            dirty += sheet.since > 0 ? 1 : 0;
        }
        return (float) dirty / (float) cache.size();
    }

    public double meanSize() {
        int sum = 0;
        for (Sheet sheet : cache.values()) {
            sum += sheet.versions.size();
        }
        return (double) sum / (double) cache.size();
    }

    public boolean isSound() {
        for (Sheet sheet : cache.values()) {
            if (sheet.versions.size() > 6 || sheet.stamp > log.size()) {
                return false;
            }
            int end = 64;
            for (Sheet other : cache.values()) {
                end = other.low > sheet.low ? Math.min(end, other.low) : end;
            }
            Version before = null;
            for (Version version : sheet.versions) {
                boolean inside = version.key >= sheet.low && version.key < end;
                boolean ordered = before == null || compare(before, version) < 0;
                boolean told = version.number <= log.size()
                        && version.equals(log.get(version.number - 1).version);
                if (!ordered || !told || phase == 'd' && !inside) {
                    return false;
                }
                before = version;
            }
        }
        for (Sheet sheet : disk.values()) {
            if (sheet.stamp > durable) {
                return false;
            }
        }
        Map<Integer, Integer> replayed = replay();
        for (int key = 0; key < 64 && phase == 'd'; key++) {
            Version best = latest(key, -1);
            Integer seen = best == null || best.value < 0 ? null : (Integer) best.value;
            if (!Objects.equals(seen, replayed.get(key))) {
                return false;
            }
        }
        return true;
    }
}
