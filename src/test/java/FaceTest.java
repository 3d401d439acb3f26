import java.lang.reflect.Constructor;
import java.lang.reflect.Method;
import java.lang.reflect.Modifier;
import java.util.ArrayList;
import java.util.Arrays;
import java.util.List;
import java.util.Set;
import java.util.TreeSet;

/** The public face, word for word as the document has it, and no other member that is not private. */
public final class FaceTest {
    private static final String FACE = """
        public int begin(int) throws IllegalArgumentException, IllegalStateException
        public char lock(int, int, int, boolean) throws IndexOutOfBoundsException, IllegalArgumentException, IllegalStateException
        public int locksOf(int) throws IndexOutOfBoundsException
        public int waitsFor(int) throws IndexOutOfBoundsException, NoSuchElementException
        public int put(int, int, int) throws IndexOutOfBoundsException, IllegalArgumentException, IllegalStateException, UnsupportedOperationException
        public int remove(int, int) throws IndexOutOfBoundsException, IllegalArgumentException, IllegalStateException, UnsupportedOperationException, NoSuchElementException
        public int read(int, int) throws IndexOutOfBoundsException, IllegalArgumentException, IllegalStateException, UnsupportedOperationException, NoSuchElementException
        public int commit(int) throws IndexOutOfBoundsException, IllegalStateException
        public int abort(int) throws IndexOutOfBoundsException, IllegalStateException
        public char stateOf(int) throws IndexOutOfBoundsException
        public int promised()
        public long woken()
        public int setQuota(int, int) throws IllegalArgumentException
        public int versionsOf(int) throws IllegalArgumentException
        public int snapshot() throws IllegalStateException
        public int readAt(int, int) throws IndexOutOfBoundsException, IllegalArgumentException, IllegalStateException, NoSuchElementException
        public int drop(int) throws IndexOutOfBoundsException
        public int clean() throws IllegalStateException
        public int value(int) throws IllegalArgumentException, IllegalStateException, NoSuchElementException
        public int valueByReplay(int) throws IllegalArgumentException, IllegalStateException, NoSuchElementException
        public int force()
        public int mark() throws IllegalStateException
        public int logLength()
        public int durable()
        public char kindAt(int) throws IndexOutOfBoundsException
        public int transactionAt(int) throws IndexOutOfBoundsException, NoSuchElementException
        public int pageAt(int) throws IndexOutOfBoundsException, NoSuchElementException
        public int writePage(int) throws IndexOutOfBoundsException, IllegalStateException, UnsupportedOperationException
        public boolean isDirty(int) throws IndexOutOfBoundsException
        public int firstDirty(int) throws IndexOutOfBoundsException, IllegalStateException
        public int stampOf(int) throws IndexOutOfBoundsException
        public int pages()
        public int pageOf(int) throws IllegalArgumentException, IllegalStateException
        public int lowOf(int) throws IndexOutOfBoundsException
        public int sizeOf(int) throws IndexOutOfBoundsException
        public int versionAt(int, int) throws IndexOutOfBoundsException, NoSuchElementException
        public int keyAt(int, int) throws IndexOutOfBoundsException, NoSuchElementException
        public int valueAt(int, int) throws IndexOutOfBoundsException, NoSuchElementException
        public int crash(int) throws IllegalArgumentException, UnsupportedOperationException
        public int recover(int) throws IllegalArgumentException, IllegalStateException
        public char phase()
        public int redone()
        public int undone()
        public int follow(int) throws IllegalArgumentException
        public int replicaAt()
        public int pin() throws IllegalStateException
        public int readPinned(int, int) throws IndexOutOfBoundsException, IllegalArgumentException, NoSuchElementException
        public long pagesWritten()
        public float dirtyShare()
        public double meanSize()
        public boolean isSound()
        """;

    private FaceTest() { }

    public static void main(String[] args) {
        Check check = new Check("FaceTest");
        Set<String> due = new TreeSet<>(Arrays.asList(FACE.strip().split("\n")));
        Set<String> found = new TreeSet<>();
        Set<String> publicNames = new TreeSet<>();
        List<String> privateNames = new ArrayList<>();
        for (Method method : RiptideLedger.class.getDeclaredMethods()) {
            if (Modifier.isPrivate(method.getModifiers())) {
                privateNames.add(method.getName());
            } else {
                found.add(faceOf(method));
                publicNames.add(method.getName());
            }
        }
        due.forEach(line -> check.due("in the face is " + line, 1, found.contains(line) ? 1 : 0));
        found.forEach(line -> check.due("in the document is " + line, 1, due.contains(line) ? 1 : 0));
        privateNames.forEach(name -> check.due("public and private is " + name, 0, publicNames.contains(name) ? 1 : 0));
        check.due(Modifier.PUBLIC | Modifier.FINAL, RiptideLedger.class.getModifiers());
        Constructor<?>[] made = RiptideLedger.class.getDeclaredConstructors();
        check.due("constructors", 1, made.length);
        check.due("arguments", 0, made[0].getParameterCount());
        check.due(true, Modifier.isPublic(made[0].getModifiers()));
        Arrays.stream(RiptideLedger.class.getDeclaredFields())
                .forEach(field -> check.due(true, Modifier.isPrivate(field.getModifiers())));
        check.end();
    }

    private static String faceOf(Method method) {
        StringBuilder text = new StringBuilder(Modifier.toString(method.getModifiers()));
        text.append(' ').append(method.getReturnType().getSimpleName()).append(' ').append(method.getName());
        text.append('(').append(names(method.getParameterTypes())).append(')');
        if (method.getExceptionTypes().length > 0) {
            text.append(" throws ").append(names(method.getExceptionTypes()));
        }
        return text.toString();
    }

    private static String names(Class<?>[] types) {
        List<String> names = new ArrayList<>();
        for (Class<?> type : types) {
            names.add(type.getSimpleName());
        }
        return String.join(", ", names);
    }
}
