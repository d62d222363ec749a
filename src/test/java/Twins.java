import java.util.function.Supplier;
import java.util.function.ToIntFunction;

/**
 * Calls that change nothing, refused ones most of all. Each is made on one of two houses that start alike: its
 * answer is the one that is due, and then the two stay alike, in what can be asked now and in what comes of their
 * hidden eggs later.
 */
final class Twins {
    /** Longer than any egg needs from the queue's end, or the wash, to its last place. */
    private static final int TICKS_AFTER = 45;

    private final Check check;
    private final Supplier<EggHouse> start;

    interface CallWith {
        int make(EggHouse x, int v);
    }

    interface Question {
        int ask(EggHouse x, int which, int what);
    }

    Twins(Check check, Supplier<EggHouse> start) {
        this.check = check;
        this.start = start;
    }

    void due(String call, int want, ToIntFunction<EggHouse> made) {
        EggHouse asked = start.get();
        EggHouse twin = start.get();
        check.due(call, made.applyAsInt(asked), want);
        check.isTrue(call + " changes nothing", Snapshot.of(asked).equals(Snapshot.of(twin)));
        check.isTrue(call + " changes nothing later", staysAlike(asked, twin));
    }

    /** The first numbers below and above what is taken, and the farthest. */
    void outside(String call, int least, int most, int want, CallWith made) {
        int[] wrong = {least - 1, most + 1, Integer.MIN_VALUE, Integer.MAX_VALUE};
        for (int v : wrong) {
            due(call + " with " + v, want, x -> made.make(x, v));
        }
    }

    /** A question of things 0 .. lastWhich and whats 0 .. lastWhat: each beyond its own, whatever the other is. */
    void outsideQuestion(String call, int lastWhich, int lastWhat, Question asked) {
        for (int i = 0; i <= lastWhat; i++) {
            int what = i;
            outside(call + ", what " + what, 0, lastWhich, EggHouse.BAD, (x, v) -> asked.ask(x, v, what));
        }
        for (int i = 0; i <= lastWhich; i++) {
            int which = i;
            outside(call + " of " + which, 0, lastWhat, EggHouse.BAD, (x, v) -> asked.ask(x, which, v));
        }
        due(call + " of all too large", EggHouse.BAD, x -> asked.ask(x, lastWhich + 1, lastWhat + 1));
    }

    private static boolean staysAlike(EggHouse asked, EggHouse twin) {
        boolean alike = true;
        for (int i = 0; i < TICKS_AFTER; i++) {
            asked.tick(1);
            twin.tick(1);
            alike &= Snapshot.of(asked).equals(Snapshot.of(twin));
        }
        alike &= asked.egg(0, 50, 0, 0, 0) == twin.egg(0, 50, 0, 0, 0);
        alike &= asked.order(3, 1, 1) == twin.order(3, 1, 1);
        alike &= asked.serve() == twin.serve();
        return alike && Snapshot.of(asked).equals(Snapshot.of(twin));
    }
}
