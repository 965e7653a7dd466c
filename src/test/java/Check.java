import java.util.function.Consumer;
import java.util.function.Supplier;
import java.util.function.ToIntFunction;

/** What all tests of the project share: answers and refusals are compared, and main ends with 1 if one is wrong. */
final class Check {
    private static int wrong = 0;

    private Check() {
    }

    static void due(String call, long got, long want) {
        if (got != want) {
            tell(call + " answered " + got + ", due is " + want);
        }
    }

    static void tell(String what) {
        wrong++;
        System.out.println(what);
    }

    static void end() {
        System.out.println(wrong == 0 ? "all answers are as due" : wrong + " answers are not as due");
        if (wrong != 0) {
            System.exit(1);
        }
    }

    /** The call throws exactly this class, and the object then answers as one that was never so called. */
    static void refused(String call, Class<?> due, Supplier<ReceiveSteps> maker, Consumer<ReceiveSteps> action) {
        ReceiveSteps called = maker.get();
        Class<?> got = null;
        try {
            action.accept(called);
        } catch (RuntimeException e) {
            got = e.getClass();
        }
        if (got != due) {
            tell(call + " threw " + got + ", due is " + due);
        }
        sameAs(call, called, maker.get());
    }

    /** The call answers this, and the object then answers as one that was never so called. */
    static void unchanged(String call, int due, Supplier<ReceiveSteps> maker, ToIntFunction<ReceiveSteps> action) {
        ReceiveSteps called = maker.get();
        due(call, action.applyAsInt(called), due);
        sameAs(call, called, maker.get());
    }

    private static void sameAs(String call, ReceiveSteps called, ReceiveSteps untouched) {
        String got = Portrait.of(called);
        String want = Portrait.of(untouched);
        if (!got.equals(want)) {
            tell(call + " changed the object: " + got + " instead of " + want);
        }
    }
}
