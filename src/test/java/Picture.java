import java.util.List;
import java.util.function.Function;

/**
 * What the calls of a store answer, as texts that can be compared. It is taken in parts, each from a store of its own,
 * since a store is good for 512 calls; the last part makes calls that change the store, to see what lies behind.
 */
final class Picture {
    /** A call whose answer, or whose exception, is a part of a picture. */
    interface Call {
        Object answer();
    }

    static final List<Function<RiptideLedger, String>> PARTS = List.of(
            Picture::figuresAndTransactions, Picture::pages, Picture::log, Picture::keys, Picture::pastAndReplica,
            Picture::whatComes);

    private static final int[] SOME_KEYS = {0, 1, 5, 20, 30, 50, 63};

    private final StringBuilder text = new StringBuilder();

    private Picture() { }

    private void add(String name, Call call) {
        text.append(name).append('=');
        try {
            text.append(call.answer());
        } catch (RuntimeException e) {
            text.append(e.getClass().getSimpleName());
        }
        text.append(' ');
    }

    private static String figuresAndTransactions(RiptideLedger x) {
        Picture p = new Picture();
        p.add("promised", x::promised);
        p.add("woken", x::woken);
        p.add("logLength", x::logLength);
        p.add("durable", x::durable);
        p.add("pages", x::pages);
        p.add("phase", x::phase);
        p.add("redone", x::redone);
        p.add("undone", x::undone);
        p.add("replicaAt", x::replicaAt);
        p.add("pagesWritten", x::pagesWritten);
        p.add("dirtyShare", x::dirtyShare);
        p.add("meanSize", x::meanSize);
        p.add("isSound", x::isSound);
        for (int user = 0; user < 4; user++) {
            int given = user;
            p.add("versionsOf" + user, () -> x.versionsOf(given));
        }
        for (int number = 0; number < 61; number++) {
            int given = number;
            p.add("stateOf" + number, () -> x.stateOf(given));
            p.add("locksOf" + number, () -> x.locksOf(given));
            p.add("waitsFor" + number, () -> x.waitsFor(given));
        }
        return p.text.toString();
    }

    private static String pages(RiptideLedger x) {
        Picture p = new Picture();
        for (int page = 0; page < 12; page++) {
            int given = page;
            p.add("isDirty" + page, () -> x.isDirty(given));
            p.add("firstDirty" + page, () -> x.firstDirty(given));
            p.add("stampOf" + page, () -> x.stampOf(given));
            p.add("lowOf" + page, () -> x.lowOf(given));
            int before = p.text.length();
            p.add("sizeOf" + page, () -> x.sizeOf(given));
            for (int index = 0; index < 7 && p.text.indexOf("Exception", before) < 0; index++) {
                int place = index;
                p.add("versionAt" + index, () -> x.versionAt(given, place));
                p.add("keyAt" + index, () -> x.keyAt(given, place));
                p.add("valueAt" + index, () -> x.valueAt(given, place));
            }
        }
        return p.text.toString();
    }

    private static String log(RiptideLedger x) {
        Picture p = new Picture();
        for (int number = 1; number <= 80; number++) {
            int given = number;
            int before = p.text.length();
            p.add("kindAt" + number, () -> x.kindAt(given));
            if (p.text.indexOf("Exception", before) < 0) {
                p.add("transactionAt", () -> x.transactionAt(given));
                p.add("pageAt", () -> x.pageAt(given));
            }
        }
        return p.text.toString();
    }

    private static String keys(RiptideLedger x) {
        Picture p = new Picture();
        for (int key = 0; key < 64; key++) {
            int given = key;
            p.add("value" + key, () -> x.value(given));
            p.add("valueByReplay" + key, () -> x.valueByReplay(given));
            p.add("pageOf" + key, () -> x.pageOf(given));
        }
        return p.text.toString();
    }

    private static String pastAndReplica(RiptideLedger x) {
        Picture p = new Picture();
        for (int key : SOME_KEYS) {
            for (int number = -1; number < 8; number++) {
                int given = number;
                p.add("readAt" + number + "," + key, () -> x.readAt(given, key));
                p.add("readPinned" + number + "," + key, () -> x.readPinned(given, key));
            }
            for (int number = 0; number < 10; number++) {
                int given = number;
                p.add("read" + number + "," + key, () -> x.read(given, key));
            }
        }
        return p.text.toString();
    }

    /** What calls answer that change the store: numbers to come, quotas, locks that are wanted, and the disk. */
    private static String whatComes(RiptideLedger x) {
        Picture p = new Picture();
        for (int user = 0; user < 4; user++) {
            int given = user;
            p.add("setQuota" + user, () -> x.setQuota(given, 50));
        }
        p.add("recover", () -> x.recover(1));
        p.add("begin", () -> x.begin(1));
        p.add("snapshot", x::snapshot);
        p.add("pin", x::pin);
        for (int number = 0; number < 10; number++) {
            int given = number;
            p.add("put" + number, () -> x.put(given, 52, 52));
            p.add("lock" + number, () -> x.lock(given, 30, 52, false));
        }
        p.add("mark", x::mark);
        p.add("clean", x::clean);
        p.add("follow", () -> x.follow(99));
        for (int number = 0; number < 60; number++) {
            int given = number;
            p.add(number % 2 == 0 ? "abort" + number : "commit" + number,
                    () -> given % 2 == 0 ? x.abort(given) : x.commit(given));
        }
        p.add("woken", x::woken);
        p.add("force", x::force);
        for (int number = 0; number < 7; number++) {
            int given = number;
            p.add("drop" + number, () -> x.drop(given));
        }
        p.add("crash", () -> x.crash(-1));
        p.add("disk ", () -> figuresAndTransactions(x));
        for (int round = 0; round < 3; round++) {
            p.add("recover", () -> x.recover(99));
        }
        p.add("after ", () -> x.logLength() + " " + x.redone() + " " + x.undone() + " " + x.phase());
        return p.text.toString();
    }
}
