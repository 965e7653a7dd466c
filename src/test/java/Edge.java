import java.util.function.Supplier;

/** What the tests of the document's edges share: one call on a new object at some step of a receiving. */
final class Edge {
    static final String NONE = "throws.NoSuchElementException";
    static final String RANGE = "throws.IllegalArgumentException";
    static final String NOW = "throws.IllegalStateException";
    static final String ROOM = "throws.UnsupportedOperationException";

    static final int LOWEST = Integer.MIN_VALUE;
    static final int HIGHEST = Integer.MAX_VALUE;

    private Edge() {
    }

    static void answered(int due, Supplier<ReceiveSteps> scene, String name, int... with) {
        compare(String.valueOf(due), scene, new Call(name, with));
    }

    /** The call throws this and changes nothing. */
    static void refused(String due, Supplier<ReceiveSteps> scene, String name, int... with) {
        Call call = new Call(name, with);
        compare(due, scene, call);
        Check.unchanged(call.toString(), scene, call::answer);
    }

    /** The call answers what stands in its way and changes nothing. */
    static void broken(int due, Supplier<ReceiveSteps> scene, String name, int... with) {
        refused(String.valueOf(due), scene, name, with);
    }

    /** Of a call that is fine otherwise one number is from first to last, and refused outside. */
    static void range(int first, int last, int which, Supplier<ReceiveSteps> scene, String name, int... with) {
        int[] inside = {first, last};
        for (int number : inside) {
            Call call = replaced(which, number, name, with);
            String got = call.answer(scene.get());
            if (got.startsWith("throws.")) {
                Check.tell(call + " answered " + got + ", within " + first + " .. " + last);
            }
        }
        int[] outside = {first - 1, last + 1, LOWEST, HIGHEST};
        for (int number : outside) {
            Call call = replaced(which, number, name, with);
            compare(RANGE, scene, call);
            Check.unchanged(call.toString(), scene, call::answer);
        }
    }

    /** One number of a call that is fine otherwise is none of those that there are. */
    static void none(int[] numbers, int which, Supplier<ReceiveSteps> scene, String name, int... with) {
        for (int number : numbers) {
            Call call = replaced(which, number, name, with);
            compare(NONE, scene, call);
            Check.unchanged(call.toString(), scene, call::answer);
        }
    }

    private static Call replaced(int which, int number, String name, int... with) {
        int[] other = with.clone();
        other[which] = number;
        return new Call(name, other);
    }

    private static void compare(String due, Supplier<ReceiveSteps> scene, Call call) {
        String got = call.answer(scene.get());
        if (!got.equals(due)) {
            Check.tell(call + " answered " + got + ", due is " + due);
        }
    }
}
