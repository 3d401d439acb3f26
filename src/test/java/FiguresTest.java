import java.util.NoSuchElementException;

/** Promises 49 to 52: the figures. */
public final class FiguresTest {
    private static final Check CHECK = new Check("FiguresTest");

    private FiguresTest() { }

    public static void main(String[] args) {
        pagesWritten();
        dirtyShare();
        meanSize();
        isSound();
        isUnsoundByKeys();
        isUnsoundByOneKey();
        isUnsoundByValues();
        isUnsoundByNumber();
        CHECK.end();
    }

    /** A store whose transaction 0, of user 0, has an exclusive lock on all keys and has put so many of them. */
    private static RiptideLedger filled(int keys) {
        RiptideLedger x = new RiptideLedger();
        x.begin(0);
        x.lock(0, 0, 63, true);
        for (int key = 0; key < keys; key++) {
            x.put(0, key, key);
        }
        return x;
    }

    private static void pagesWritten() {
        CHECK.promise(49, "pagesWritten");
        RiptideLedger x = filled(7);
        CHECK.dueThrow(UnsupportedOperationException.class, () -> x.writePage(0));
        CHECK.due(0, x.pagesWritten());
        x.force();
        x.writePage(0);
        CHECK.due(1, x.pagesWritten());
        CHECK.dueThrow(IllegalStateException.class, () -> x.writePage(0));
        x.writePage(1);
        CHECK.due(2, x.pagesWritten());
        x.put(0, 0, 1);
        x.force();
        x.crash(0);
        CHECK.due(2, x.pagesWritten());
        x.recover(99);
        x.force();
        x.writePage(0);
        CHECK.due(3, x.pagesWritten());
    }

    private static void dirtyShare() {
        CHECK.promise(50, "dirtyShare");
        RiptideLedger x = filled(0);
        CHECK.due(0.0, x.dirtyShare());
        x.put(0, 0, 0);
        CHECK.due(1.0, x.dirtyShare());
        RiptideLedger y = filled(10);
        CHECK.due(3, y.pages());
        CHECK.due(1.0, y.dirtyShare());
        y.force();
        y.writePage(0);
        CHECK.due((double) (2.0f / 3.0f), y.dirtyShare());
        y.writePage(2);
        CHECK.due((double) (1.0f / 3.0f), y.dirtyShare());
        y.crash(-1);
        // the page 1 is not there
        CHECK.due(0.0, y.dirtyShare());
        for (int step = 0; y.phase() != 'u'; step++) {
            y.recover(1);
        }
        CHECK.due((double) (1.0f / 3.0f), y.dirtyShare());
    }

    private static void meanSize() {
        CHECK.promise(51, "meanSize");
        RiptideLedger x = filled(0);
        CHECK.due(0.0, x.meanSize());
        x.put(0, 0, 0);
        CHECK.due(1.0, x.meanSize());
        RiptideLedger y = filled(10);
        CHECK.due(10.0 / 3.0, y.meanSize());
        y.put(0, 5, 0);
        CHECK.due(11.0 / 3.0, y.meanSize());
        y.abort(0);
        CHECK.due(0.0, y.meanSize());
        RiptideLedger z = filled(7);
        CHECK.due(3.5, z.meanSize());
        z.force();
        z.writePage(1);
        z.crash(-1);
        CHECK.due(2.0, z.meanSize());
    }

    private static void isSound() {
        CHECK.promise(52, "isSound");
        RiptideLedger x = filled(0);
        CHECK.due(true, x.isSound());
        for (int key = 0; key < 20; key++) {
            x.put(0, key * 7 % 64, key);
            CHECK.due(true, x.isSound());
        }
        x.force();
        for (int page = 0; page < x.pages(); page += 2) {
            x.writePage(page);
        }
        x.remove(0, 7);
        x.commit(0);
        CHECK.due(true, x.isSound());
        x.clean();
        CHECK.due(true, x.isSound());
        x.force();
        x.crash(-1);
        CHECK.due(true, x.isSound());
        for (int step = 0; step < 300 && x.phase() != 'd'; step++) {
            x.recover(1);
            CHECK.due(true, x.isSound());
        }
        CHECK.due('d', x.phase());
    }

    /** A torn page that was written half remade can miss a split: then it has versions beyond its keys. */
    private static void isUnsoundByKeys() {
        CHECK.promise(52, "isSound");
        RiptideLedger x = filled(7);
        x.commit(0);
        x.force();
        x.writePage(0);
        x.writePage(1);
        x.mark();
        x.begin(0);
        x.lock(1, 0, 63, true);
        x.put(1, 1, 11);
        x.commit(1);
        x.force();
        x.crash(0);
        x.recover(3 + 6);
        CHECK.due(6, x.writePage(0));
        x.crash(-1);
        x.recover(3);
        CHECK.due('r', x.phase());
        CHECK.due(6, x.sizeOf(0));
        // the keys of a page count only when the store is up
        CHECK.due(true, x.isSound());
        x.recover(1);
        // more than 6 versions never do
        CHECK.due(7, x.sizeOf(0));
        CHECK.due('r', x.phase());
        CHECK.due(false, x.isSound());
        x.recover(99);
        CHECK.due(11, x.value(1));
        CHECK.due(false, x.isSound());
        seventhVersionStays(x);
        x.clean();
        CHECK.due(6, x.sizeOf(0));
        for (int key = 0; key < 7; key++) {
            CHECK.due(x.valueByReplay(key), x.value(key));
        }
        // only the keys are wrong now
        CHECK.due(false, x.isSound());
    }

    private static void seventhVersionStays(RiptideLedger x) {
        x.force();
        x.writePage(0);
        x.crash(-1);
        CHECK.due(7, x.sizeOf(0));
        CHECK.due(5, x.keyAt(0, 6));
        x.recover(99);
        CHECK.due(7, x.sizeOf(0));
        CHECK.due(5, x.valueAt(0, 6));
    }

    /** A store whose page 0 was remade up to a record, before its split, then written, and is behind recovery. */
    private static RiptideLedger halfRemade(int record, int... keys) {
        RiptideLedger x = filled(0);
        for (int key : keys) {
            x.put(0, key, key);
        }
        x.commit(0);
        x.force();
        x.writePage(0);
        x.writePage(1);
        x.mark();
        x.begin(0);
        x.lock(1, 0, 0, true);
        x.put(1, 0, 1);
        x.commit(1);
        x.force();
        x.crash(0);
        x.recover(3 + record);
        x.writePage(0);
        x.crash(-1);
        x.recover(99);
        return x;
    }

    private static void isUnsoundByOneKey() {
        CHECK.promise(52, "isSound");
        // the page 0 ends below 9: it has versions of the key 9 alone that are beyond
        RiptideLedger x = halfRemade(4, 1, 2, 3, 9, 9, 9, 10);
        CHECK.due('d', x.phase());
        CHECK.due(9, x.lowOf(1));
        CHECK.due(5, x.sizeOf(0));
        CHECK.due(9, x.keyAt(0, 4));
        CHECK.due(x.valueByReplay(9), x.value(9));
        CHECK.due(false, x.isSound());
        // it has none of the key 9, but one that is greater
        RiptideLedger y = halfRemade(5, 1, 2, 3, 20, 30, 9, 10);
        CHECK.due(9, y.lowOf(1));
        CHECK.due(6, y.sizeOf(0));
        CHECK.due(20, y.keyAt(0, 4));
        CHECK.due(y.valueByReplay(20), y.value(20));
        CHECK.due(false, y.isSound());
        // remade up to the split, it is sound
        RiptideLedger z = halfRemade(7, 1, 2, 3, 20, 30, 9, 10);
        CHECK.due(4, z.sizeOf(0));
        CHECK.due(true, z.isSound());
    }

    /** A torn page that was written half remade can lack versions: value and valueByReplay differ for one key. */
    private static void isUnsoundByValues() {
        CHECK.promise(52, "isSound");
        int[] keys = {0, 5, 63};
        for (int lacking : keys) {
            RiptideLedger x = filled(0);
            x.put(0, 1, 1);
            x.put(0, lacking, 7);
            x.commit(0);
            x.force();
            x.writePage(0);
            x.mark();
            x.begin(0);
            x.lock(1, 0, 63, true);
            x.put(1, 2, 2);
            x.commit(1);
            x.force();
            x.crash(0);
            x.recover(3 + 1);
            x.writePage(0);
            x.crash(-1);
            CHECK.due(true, x.isSound());
            x.recover(4);
            CHECK.due('r', x.phase());
            // whether the values tell the same counts only when the store is up
            CHECK.due(true, x.isSound());
            x.recover(1);
            CHECK.due('d', x.phase());
            CHECK.due(7, x.valueByReplay(lacking));
            CHECK.dueThrow(NoSuchElementException.class, () -> x.value(lacking));
            CHECK.due(false, x.isSound());
            // a new version of the key: both tell the same again
            x.begin(0);
            x.lock(2, 0, 63, true);
            x.put(2, lacking, 8);
            CHECK.due(false, x.isSound());
            x.commit(2);
            CHECK.due(true, x.isSound());
        }
    }

    /** A torn page that was written half remade can miss the cleaner's work: then it only has too many versions. */
    private static void isUnsoundByNumber() {
        CHECK.promise(52, "isSound");
        RiptideLedger x = filled(0);
        for (int value = 1; value <= 6; value++) {
            x.put(0, 0, value);
        }
        x.commit(0);
        CHECK.due(5, x.clean());
        x.force();
        CHECK.due(12, x.writePage(0));
        x.mark();
        x.begin(0);
        x.lock(1, 0, 0, true);
        x.put(1, 0, 7);
        x.commit(1);
        x.force();
        x.crash(0);
        x.recover(3 + 6);
        CHECK.due(6, x.writePage(0));
        x.crash(-1);
        CHECK.due(6, x.sizeOf(0));
        CHECK.due(true, x.isSound());
        x.recover(99);
        CHECK.due(7, x.sizeOf(0));
        CHECK.due(x.valueByReplay(0), x.value(0));
        CHECK.due(false, x.isSound());
        x.writePage(0);
        CHECK.due(false, x.isSound());
        // of a page that has 7 versions on the disk alone, sizeOf tells none too many: it is read as sound
        CHECK.due(6, x.clean());
        CHECK.due(1, x.sizeOf(0));
        CHECK.due(true, x.isSound());
        x.crash(-1);
        CHECK.due(7, x.sizeOf(0));
        CHECK.due(false, x.isSound());
    }
}
