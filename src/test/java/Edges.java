import java.util.ArrayList;
import java.util.HashMap;
import java.util.List;
import java.util.Map;
import java.util.function.Supplier;

/** Tests calls on both sides of a boundary: one that is refused and changes nothing, and one that is taken. */
final class Edges {
    /** A call on a store. */
    interface Call {
        Object on(RiptideLedger x);
    }

    private final Check check;
    private final Map<Supplier<RiptideLedger>, List<String>> pictures = new HashMap<>();

    Edges(Check check) {
        this.check = check;
    }

    /** The call throws this, and behind it all calls answer as they do on a store that was not asked for it. */
    void refused(Class<? extends RuntimeException> due, Supplier<RiptideLedger> scene, Call call) {
        List<String> before = pictures.computeIfAbsent(scene, Edges::pictureOf);
        for (int part = 0; part < before.size(); part++) {
            RiptideLedger x = scene.get();
            check.dueThrow(due, () -> {
                call.on(x);
                return 0;
            });
            check.dueText(before.get(part), Picture.PARTS.get(part).apply(x));
        }
    }

    /** The call answers this. */
    void taken(Object due, Supplier<RiptideLedger> scene, Call call) {
        RiptideLedger x = scene.get();
        String got;
        try {
            got = String.valueOf(call.on(x));
        } catch (RuntimeException e) {
            got = e.toString();
        }
        check.dueText(String.valueOf(due), got);
    }

    private static List<String> pictureOf(Supplier<RiptideLedger> scene) {
        List<String> parts = new ArrayList<>();
        for (int part = 0; part < Picture.PARTS.size(); part++) {
            parts.add(Picture.PARTS.get(part).apply(scene.get()));
        }
        return parts;
    }
}
