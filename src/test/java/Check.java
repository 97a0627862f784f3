import java.util.function.Supplier;
import java.util.function.ToLongFunction;

/** Counts answers that are not the due ones; a test ends with end(). */
final class Check {
    static final long ERROR = -4611686018427387905L;

    private static int wrong = 0;
    private static int looked = 0;

    private Check() {
    }

    static void due(String call, long got, long want) {
        looked++;
        if (got != want) {
            wrong++;
            System.out.println(call + " answered " + got + ", due is " + want);
        }
    }

    static void dueFloat(String call, float got, float want) {
        looked++;
        if (Float.compare(got, want) != 0) {
            wrong++;
            System.out.println(call + " answered " + got + ", due is " + want);
        }
    }

    /** The call answers the error and changes nothing: neither what is told nor the history. */
    static void refuses(String call, Supplier<WheelDesk> maker, ToLongFunction<WheelDesk> made, long error) {
        WheelDesk plain = maker.get();
        WheelDesk asked = maker.get();
        due(call, made.applyAsLong(asked), error);
        same(call + " then", asked, plain);
    }

    /** The call is an act: undo() right behind it brings back what was, and it took one step of the history. */
    static void acts(String call, Supplier<WheelDesk> maker, ToLongFunction<WheelDesk> made, long answer) {
        WheelDesk plain = maker.get();
        WheelDesk asked = maker.get();
        plain.set(0, plain.setting(0));
        due(call, made.applyAsLong(asked), answer);
        due(call + ", undo()", asked.undo(), plain.undo());
        same(call + ", undo() then", asked, plain);
    }

    /** The call only tells: it takes no step of the history and changes nothing. */
    static void tells(String call, Supplier<WheelDesk> maker, ToLongFunction<WheelDesk> made, long answer) {
        refuses(call, maker, made, answer);
    }

    /** Both tell the same now and at every step back. */
    static void same(String what, WheelDesk one, WheelDesk other) {
        dueFloat(what + " fullness()", one.fullness(), other.fullness());
        due(what + " spare()", one.spare(), other.spare());
        due(what + " arrives(1000)", one.arrives(1000), other.arrives(1000));
        due(what + " gravest(7)", one.gravest(7), other.gravest(7));
        for (int i = 0; i <= 5; i++) {
            due(what + " fingerprint() after " + i + " undo()", one.fingerprint(), other.fingerprint());
            due(what + " undo() " + i, one.undo(), other.undo());
        }
    }

    static void end() {
        System.out.println(looked + " answers looked at, " + wrong + " not as due");
        if (wrong != 0 || looked == 0) {
            System.exit(1);
        }
    }
}
