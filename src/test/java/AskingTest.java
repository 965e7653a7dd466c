import java.util.NoSuchElementException;

/** Promises 21 to 24: unit, told, state, count of the object. */
public final class AskingTest {
    private static final Class<?> NONE = NoSuchElementException.class;
    private static final Class<?> RANGE = IllegalArgumentException.class;

    public static void main(String[] args) {
        unit();
        told();
        state();
        count();
        Check.end();
    }

    /** Announcement 2 of owner 6: of its line 1 unit 3 is made, 20 of 200 pieces. */
    private static ReceiveSteps second() {
        ReceiveSteps x = Scene.counted();
        x.announce(6, 3);
        x.line(2, 8, 100);
        x.line(2, 9, 200);
        x.line(2, 7, 300);
        x.arrive(2, 3, true);
        x.day(9);
        x.count(2, 1, 20, 55, 0);
        x.date(3, 8);
        x.label(3);
        x.wanted(2, 1, 4);
        x.sample(2, 1, false);
        x.tolerance(2, 1, 3);
        return x;
    }

    private static void unit() {
        ReceiveSteps x = second();
        int[] waiting = {3, 2, 1, 20, 55, 8, 0, 6000011};
        for (int what = 0; what < 8; what++) {
            Check.due("unit(3, " + what + ")", x.unit(3, what), waiting[what]);
        }
        x.damaged(3, 7);
        Check.due("DAMAGED: unit(3, 0)", x.unit(3, 0), 1);
        Check.due("DAMAGED: unit(3, 6)", x.unit(3, 6), 7);
        Check.refused("unit(4, 8)", NONE, AskingTest::second, y -> y.unit(4, 8));
        Check.refused("unit(0, 0)", NONE, AskingTest::second, y -> y.unit(0, 0));
        Check.refused("unit(121, 0)", NONE, AskingTest::second, y -> y.unit(121, 0));
        Check.refused("unit(lowest, 0)", NONE, AskingTest::second, y -> y.unit(Integer.MIN_VALUE, 0));
        Check.refused("unit(3, 8)", RANGE, AskingTest::second, y -> y.unit(3, 8));
        Check.refused("unit(3, -1)", RANGE, AskingTest::second, y -> y.unit(3, -1));
    }

    private static void told() {
        ReceiveSteps x = second();
        int[] want = {9, 200, 20, 0, 3, 1, 206};
        for (int what = 0; what < 7; what++) {
            Check.due("told(2, 1, " + what + ")", x.told(2, 1, what), want[what]);
        }
        Check.due("told(2, 2, 1)", x.told(2, 2, 1), 300);
        x.close(2, 2);
        Check.due("told(2, 2, 3)", x.told(2, 2, 3), 1);
        Check.refused("told(3, 0, 7)", NONE, AskingTest::second, y -> y.told(3, 0, 7));
        Check.refused("told(2, 3, 7)", NONE, AskingTest::second, y -> y.told(2, 3, 7));
        Check.refused("told(2, 4, 0)", NONE, AskingTest::second, y -> y.told(2, 4, 0));
        Check.refused("told(2, -1, 0)", NONE, AskingTest::second, y -> y.told(2, -1, 0));
        Check.refused("a line that is not told yet", NONE, Scene::halfTold, y -> y.told(1, 1, 0));
        Check.refused("told(2, 1, 7)", RANGE, AskingTest::second, y -> y.told(2, 1, 7));
        Check.refused("told(2, 1, -1)", RANGE, AskingTest::second, y -> y.told(2, 1, -1));
    }

    private static void state() {
        ReceiveSteps x = second();
        int[] want = {1, 6, 3, 3};
        for (int what = 0; what < 4; what++) {
            Check.due("state(2, " + what + ")", x.state(2, what), want[what]);
        }
        Check.due("half told: state(1, 2)", Scene.halfTold().state(1, 2), 1);
        Check.due("half told: state(1, 3)", Scene.halfTold().state(1, 3), -1);
        Check.refused("state(3, 4)", NONE, AskingTest::second, y -> y.state(3, 4));
        Check.refused("state(0, 0)", NONE, AskingTest::second, y -> y.state(0, 0));
        Check.refused("state(2, 4)", RANGE, AskingTest::second, y -> y.state(2, 4));
        Check.refused("state(2, -1)", RANGE, AskingTest::second, y -> y.state(2, -1));
    }

    private static void count() {
        ReceiveSteps x = second();
        x.close(2, 2);
        x.close(2, 0);
        int[] want = {2, 3, 1, 9, 2};
        for (int what = 0; what < 5; what++) {
            Check.due("count(" + what + ")", x.count(what), want[what]);
        }
        int[] other = {-1, 5, Integer.MIN_VALUE, Integer.MAX_VALUE};
        for (int what : other) {
            Check.due("count(" + what + ")", x.count(what), -1);
        }
    }
}
