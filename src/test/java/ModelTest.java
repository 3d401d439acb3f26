import java.lang.reflect.InvocationTargetException;
import java.lang.reflect.Method;
import java.lang.reflect.Modifier;
import java.util.ArrayList;
import java.util.Arrays;
import java.util.List;
import java.util.Map;
import java.util.TreeMap;

/**
 * Long runs of calls, drawn by a fixed row of numbers, on the class and on the model; both must answer alike. A run is
 * of at most 512 calls, since what later ones answer is free: some hundreds as they come, with a few questions between
 * them, and then as many questions as are left, of all that there are.
 * Arguments: the first run and the number of runs. With MODEL_TEST_TELLS in the environment it tells what it met.
 */
public final class ModelTest {
    private static final int CALLS = 512;

    private final Map<String, Method> ofLedger = new TreeMap<>();
    private final Map<String, Method> ofModel = new TreeMap<>();
    private final Map<String, Integer> met = new TreeMap<>();
    private final List<String> told = new ArrayList<>();
    private long seed;
    private int wrong;
    private int asked;
    private RiptideLedger ledger;
    private Model model;

    // What kind of run this is: how far keys spread, how often locks are wide, and how often the store crashes.
    private int spread;
    private int wide;
    private int crashes;
    private int crowd;

    private ModelTest() throws NoSuchMethodException {
        for (Method method : RiptideLedger.class.getDeclaredMethods()) {
            if (Modifier.isPublic(method.getModifiers())) {
                ofLedger.put(method.getName(), method);
                Method twin = Model.class.getDeclaredMethod(method.getName(), method.getParameterTypes());
                twin.setAccessible(true);
                ofModel.put(method.getName(), twin);
            }
        }
    }

    public static void main(String[] args) throws Exception {
        int first = args.length > 0 ? Integer.parseInt(args[0]) : 0;
        int runs = args.length > 1 ? Integer.parseInt(args[1]) : 2400;
        ModelTest test = new ModelTest();
        for (int run = first; run < first + runs && test.wrong == 0; run++) {
            test.run(run);
        }
        test.tellWhatWasMet();
        System.exit(test.wrong == 0 ? 0 : 1);
    }

    private int below(int bound) {
        seed = seed * 6364136223846793005L + 1442695040888963407L;
        return (int) ((seed >>> 33) % bound);
    }

    private boolean chance(int percent) {
        return below(100) < percent;
    }

    private void run(int run) throws Exception {
        seed = run * 7919L + 17;
        below(2);
        ledger = new RiptideLedger();
        model = new Model();
        told.clear();
        spread = chance(30) ? 64 : 1 + below(20);
        wide = chance(50) ? 60 : 10;
        crashes = chance(20) ? 0 : 1 + below(5);
        crowd = 1 + below(6);
        int changing = 150 + below(320);
        for (asked = 0; asked < changing && wrong == 0;) {
            if (model.phase() == 'd') {
                callUp();
            } else {
                callDown();
            }
            if (chance(25)) {
                callAny();
            }
            if (chance(model.phase() == 'd' ? 8 : 50)) {
                quiet("isSound");
                quiet("phase");
                ask(6);
            }
        }
        ask(CALLS);
    }

    private int someKey() {
        return chance(3) ? below(70) - 3 : below(spread);
    }

    private int someOf(List<Integer> those) {
        return those.isEmpty() ? below(64) - 2 : those.get(below(those.size()));
    }

    private int someTransaction() {
        int dice = below(100);
        if (dice < 84) {
            return someOf(model.thoseIn('l'));
        }
        return dice < 92 ? someOf(model.thoseIn('w')) : below(model.begun() + 3) - 1;
    }

    private int someKeyOf(int transaction) {
        List<int[]> ranges = model.rangesOf(transaction);
        if (ranges.isEmpty() || chance(10)) {
            return someKey();
        }
        int[] range = ranges.get(below(ranges.size()));
        return range[0] + below(Math.max(1, Math.min(range[1], spread) - range[0] + 1));
    }

    private int somePage() {
        return chance(3) ? below(16) - 2 : below(Math.max(1, model.pages()));
    }

    private void callUp() throws Exception {
        if (model.thoseIn('l').size() < crowd && model.begun() < 60 && chance(60)) {
            same("begin", below(20) == 0 ? below(7) - 1 : below(4));
            return;
        }
        int dice = below(1000);
        if (dice < 180) {
            askLock();
        } else if (dice < 580) {
            int writer = someTransaction();
            same("put", writer, someKeyOf(writer), chance(2) ? 10000 - below(3) : below(100) - (chance(2) ? 1 : 0));
        } else if (dice < 660) {
            int writer = someTransaction();
            same("remove", writer, someKeyOf(writer));
        } else if (dice < 700) {
            int reader = someTransaction();
            same("read", reader, someKeyOf(reader));
        } else {
            callRarer(dice - 700);
        }
    }

    private void callRarer(int dice) throws Exception {
        if (dice < 45) {
            same("commit", someTransaction());
        } else if (dice < 60) {
            same("abort", someTransaction());
        } else if (dice < 110) {
            same("force");
        } else if (dice < 170) {
            same("writePage", somePage());
        } else if (dice < 190) {
            same("mark");
        } else if (dice < 210) {
            same("snapshot");
        } else if (dice < 240) {
            same("clean");
        } else if (dice < 250) {
            same("drop", below(12));
        } else if (dice < 258) {
            same("setQuota", below(6) - 1, chance(60) ? 99 : below(102) - 1);
        } else if (dice < 260) {
            same("setQuota", below(4), below(10));
        } else if (dice < 260 + 4 * crashes) {
            crashSome();
        } else if (dice < 290) {
            same("begin", below(4));
        } else {
            same("recover", below(5));
        }
    }

    private void askLock() throws Exception {
        int low = someKey();
        int high = chance(wide) ? 63 : Math.min(63, low + below(6));
        if (chance(wide)) {
            low = 0;
        }
        same("lock", someTransaction(), low, chance(3) ? low - 1 : high, chance(70));
    }

    private void crashSome() throws Exception {
        if (model.phase() == 'd' && chance(50)) {
            tearBehindMark();
            return;
        }
        if (chance(60)) {
            same("force");
        }
        int torn = chance(50) ? -1 : somePage();
        same("crash", torn);
        if (torn >= 0 && chance(40)) {
            writeHalfRemade(torn);
        }
    }

    /** A page that was written before a mark, and then changed and torn: what lies before the mark is made again too. */
    private void tearBehindMark() throws Exception {
        int writer = someTransaction();
        int key = Math.max(0, Math.min(63, someKeyOf(writer)));
        int page = model.pageOf(key);
        same("force");
        same("writePage", page);
        same("mark");
        for (int count = below(4); count >= 0; count--) {
            same("put", writer, key, below(100));
        }
        same("commit", writer);
        same("force");
        same("crash", page);
        if (model.phase() != 'd' && chance(70)) {
            writeHalfRemade(page);
        }
    }

    /** Writes a torn page amid recovery: it is not torn any more then, though recovery may begin behind it next. */
    private void writeHalfRemade(int torn) throws Exception {
        for (int round = 0; round < 30 && model.phase() == 'a'; round++) {
            same("recover", 1 + below(20));
        }
        same("recover", 1 + below(20));
        same("writePage", torn);
        same("crash", -1);
        for (int round = 0; round < 8 && model.phase() != 'd' && chance(90); round++) {
            same("recover", 1 + below(30));
        }
        quiet("isSound");
    }

    private void callDown() throws Exception {
        int dice = below(100);
        if (dice < 60) {
            same("recover", chance(50) ? 1 + below(6) : chance(95) ? 1 + below(99) : below(104) - 2);
        } else if (dice < 72) {
            same("writePage", somePage());
        } else if (dice < 80) {
            same("crash", chance(70) ? -1 : somePage());
        } else if (dice < 86) {
            same("force");
        } else {
            callUp();
        }
    }

    private void callAny() throws Exception {
        switch (below(8)) {
            case 0: same("follow", chance(5) ? below(104) - 2 : 1 + below(12)); break;
            case 1: same("follow", 1 + below(4)); break;
            case 2: same("readPinned", below(8) - 1, someKey()); break;
            case 3: same("readAt", below(12), someKey()); break;
            case 4: same("value", someKey()); break;
            case 5: same("valueByReplay", someKey()); break;
            case 6: same("pageOf", someKey()); break;
            default: if (chance(20)) { same("pin"); }
        }
    }

    /** Asks so many of all questions, drawn from them, or as many as the run has calls left. */
    private void ask(int count) throws Exception {
        List<Object[]> questions = questions();
        for (int left = count; left > 0 && asked < CALLS && !questions.isEmpty(); left--) {
            int place = below(questions.size());
            Object[] question = questions.get(place);
            questions.set(place, questions.get(questions.size() - 1));
            questions.remove(questions.size() - 1);
            quiet((String) question[0], Arrays.copyOfRange(question, 1, question.length));
        }
    }

    private List<Object[]> questions() {
        List<Object[]> all = new ArrayList<>();
        for (String name : new String[] {"logLength", "durable", "phase", "pages", "redone", "undone", "replicaAt",
            "pagesWritten", "dirtyShare", "meanSize", "isSound", "woken", "promised"}) {
            all.add(new Object[] {name});
        }
        for (int page = -1; page < 13; page++) {
            int size = page < 0 || page >= 12 ? 0 : sizeOf(page);
            if (page < model.pages() + 2) {
                addAll(all, page, "isDirty", "firstDirty", "stampOf", "lowOf", "sizeOf");
            }
            for (int index = -1; index <= size && size > 0; index++) {
                all.add(new Object[] {"versionAt", page, index});
                all.add(new Object[] {"keyAt", page, index});
                all.add(new Object[] {"valueAt", page, index});
            }
        }
        for (int number = -1; number <= model.begun(); number++) {
            addAll(all, number, "stateOf", "locksOf", "waitsFor");
        }
        for (int number = Math.max(-1, model.logLength() - 12); number < model.logLength() + 2; number++) {
            addAll(all, number, "kindAt", "transactionAt", "pageAt");
        }
        for (int user = -1; user < 5; user++) {
            addAll(all, user, "versionsOf");
        }
        for (int key = -1; key < 66; key += 1 + below(6)) {
            addAll(all, key, "value", "valueByReplay", "pageOf");
            all.add(new Object[] {"readAt", below(9), key});
            all.add(new Object[] {"readPinned", below(8) - 1, key});
        }
        return all;
    }

    private static void addAll(List<Object[]> all, int given, String... names) {
        for (String name : names) {
            all.add(new Object[] {name, given});
        }
    }

    private int sizeOf(int page) {
        try {
            return model.sizeOf(page);
        } catch (IndexOutOfBoundsException e) {
            return 0;
        }
    }

    private void same(String name, Object... given) throws Exception {
        told.add(name + Arrays.toString(given));
        quiet(name, given);
    }

    private void quiet(String name, Object... given) throws Exception {
        if (wrong > 0 || asked >= CALLS) {
            return;
        }
        asked++;
        String got = answer(ofLedger.get(name), ledger, given);
        String due = answer(ofModel.get(name), model, given);
        boolean isTelling = due.startsWith("class") || name.equals("lock") || name.equals("isSound")
                || name.equals("stateOf") || name.equals("phase") || name.equals("kindAt");
        met.merge(isTelling ? name + " " + due : name, 1, Integer::sum);
        if (!got.equals(due)) {
            wrong++;
            System.out.println(String.join("\n", told));
            System.out.println(name + Arrays.toString(given) + " answered " + got + ", due is " + due);
        }
    }

    private static String answer(Method method, Object target, Object[] given) throws Exception {
        try {
            return String.valueOf(method.invoke(target, given));
        } catch (InvocationTargetException e) {
            return e.getCause().getClass().toString();
        }
    }

    private void tellWhatWasMet() {
        System.out.println("ModelTest: " + met.size() + " kinds of answers met, " + wrong + " wrong");
        if (System.getenv("MODEL_TEST_TELLS") != null) {
            met.forEach((what, times) -> System.out.println(times + " " + what));
        }
    }
}
