import java.util.Arrays;

/** A call of the face by its name, so that calls can stand in tables; a boolean is 0 or 1, no answer is 0. */
final class Call {
    /** The two counts of the face, told apart. */
    static final String PIECES = "countPieces";
    static final String OBJECT = "count";

    private final String name;
    private final int[] with;

    Call(String name, int... with) {
        this.name = name;
        this.with = with;
    }

    @Override
    public String toString() {
        return name + Arrays.toString(with);
    }

    /** The number that it answers, or throws. and the name of what it throws. */
    String answer(ReceiveSteps x) {
        int[] all = Arrays.copyOf(with, 5);
        try {
            return String.valueOf(make(x, all[0], all[1], all[2], all[3], all[4]));
        } catch (RuntimeException e) {
            return "throws." + e.getClass().getSimpleName();
        }
    }

    private int make(ReceiveSteps x, int a, int b, int c, int d, int e) {
        switch (name) {
            case "announce": return x.announce(a, b);
            case "line": return x.line(a, b, c);
            case "arrive": return x.arrive(a, b, c != 0);
            case "accept": x.accept(a, b); return 0;
            case "right": x.right(a, b != 0); return 0;
            case "tolerance": x.tolerance(a, b, c); return 0;
            case "wanted": x.wanted(a, b, c); return 0;
            case PIECES: return x.count(a, b, c, d, e);
            case "damaged": return x.damaged(a, b);
            case "sample": return x.sample(a, b, c != 0);
            case "date": return x.date(a, b);
            case "take": return x.take(a, b);
            case "label": return x.label(a);
            case "again": return x.again(a);
            case "close": return x.close(a, b);
            case "closeAll": return x.closeAll(a);
            case "day": x.day(a); return 0;
            case "differ": return x.differ(a, b);
            case "claim": return x.claim(a, b);
            case "unit": return x.unit(a, b);
            case "told": return x.told(a, b, c);
            case "state": return x.state(a, b);
            case OBJECT: return x.count(a);
            default: throw new AssertionError("no call of the face: " + name);
        }
    }
}
