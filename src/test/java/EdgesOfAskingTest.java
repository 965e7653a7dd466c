import java.util.function.Supplier;

/** The edges that promises 21 to 24 name, each sentence by a test of its own. */
public final class EdgesOfAskingTest {
    public static void main(String[] args) {
        Check.sentence("Of a unit 0 its state, 1 its announcement, 2 its line, 3 pieces, 4 lot, 5 last day (-1 none),"
                + " 6 kind of damage (0 none), 7 label (0 none).", EdgesOfAskingTest::unit);
        Check.sentence("5 last day (-1 none), 6 kind of damage (0 none), 7 label (0 none)", EdgesOfAskingTest::unitWithout);
        Check.sentence("Of a line 0 its good, 1 what was announced, 2 counted, 3 whether it is closed, 4 samples that are"
                + " open, 5 whether one was bad, 6 what it takes.", EdgesOfAskingTest::line);
        Check.sentence("3 whether it is closed, 4 samples that are open, 5 whether one was bad", EdgesOfAskingTest::whether);
        Check.sentence("Of an announcement 0 its state, 1 owner, 2 lines that are told, 3 its door (-1 before it came).",
                EdgesOfAskingTest::announcement);
        Check.sentence("3 its door (-1 before it came)", EdgesOfAskingTest::door);
        Check.sentence("0 announcements, 1 units, 2 labels, 3 today, 4 lines closed", EdgesOfAskingTest::object);
        Check.sentence("-1 for another what.", EdgesOfAskingTest::anotherWhat);
        Check.sentence("0 announcements, 1 units, 2 labels, 3 today, 4 lines closed", EdgesOfAskingTest::mostOfAll);
        Check.sentence("Of a unit 0 its state", EdgesOfAskingTest::askingChangesNothing);
        Check.sentence("An object is used for at most 512 calls after it has been made", EdgesOfAskingTest::lastCall);
        Check.end();
    }

    private static void unit() {
        Edge.range(0, 7, 1, Scene::late, "unit", 1, 0);
        Supplier<ReceiveSteps> all = Scene.after(Scene::late, x -> {
            x.count(1, 1, 30, 99, 7);
            x.date(3, 0);
            x.label(3);
            x.damaged(3, 9);
        });
        int[] want = {1, 1, 1, 30, 99, 0, 9, 3000010};
        for (int what = 0; what < 8; what++) {
            Edge.answered(want[what], all, "unit", 3, what);
        }
    }

    private static void unitWithout() {
        Edge.answered(-1, Scene::counted, "unit", 1, 5);
        Edge.answered(0, Scene::counted, "unit", 1, 6);
        Edge.answered(0, Scene::counted, "unit", 1, 7);
        Edge.answered(0, Scene.after(Scene::counted, x -> x.date(1, 0)), "unit", 1, 5);
    }

    private static void line() {
        Edge.range(0, 6, 2, Scene::counted, "told", 1, 0, 0);
        Supplier<ReceiveSteps> all = Scene.after(Scene::counted, x -> {
            x.tolerance(1, 0, 50);
            x.wanted(1, 0, 5);
            x.sample(1, 0, false);
        });
        int[] want = {4, 120, 60, 0, 4, 1, 180};
        for (int what = 0; what < 7; what++) {
            Edge.answered(want[what], all, "told", 1, 0, what);
        }
        int[] atFirst = {4, 120, 0, 0, 0, 0, 120};
        for (int what = 0; what < 7; what++) {
            Edge.answered(atFirst[what], Scene::halfTold, "told", 1, 0, what);
        }
    }

    private static void whether() {
        Edge.answered(0, Scene::broken, "told", 1, 0, 3);
        Edge.answered(1, Scene::lineClosed, "told", 1, 0, 3);
        Edge.answered(0, Scene::lineClosed, "told", 1, 1, 3);
        Edge.answered(1, Scene::closed, "told", 1, 1, 3);
        Supplier<ReceiveSteps> two = Scene.after(Scene::arrived, x -> x.wanted(1, 0, 2));
        Edge.answered(0, two, "told", 1, 0, 5);
        Edge.answered(0, Scene.after(two, x -> x.sample(1, 0, true)), "told", 1, 0, 5);
        Edge.answered(1, Scene.after(two, x -> x.sample(1, 0, false)), "told", 1, 0, 5);
        Edge.answered(1, Scene.after(two, x -> {
            x.sample(1, 0, false);
            x.sample(1, 0, false);
        }), "told", 1, 0, 5);
        Edge.answered(1, Scene.after(two, x -> {
            x.sample(1, 0, false);
            x.sample(1, 0, true);
            x.close(1, 0);
        }), "told", 1, 0, 5);
    }

    private static void announcement() {
        Edge.range(0, 3, 1, Scene::arrived, "state", 1, 0);
        int[] atFirst = {0, 7, 0, -1};
        for (int what = 0; what < 4; what++) {
            Edge.answered(atFirst[what], Scene.after(ReceiveSteps::new, x -> x.announce(7, 4)), "state", 1, what);
        }
        int[] atLast = {3, 3, 2, 1};
        for (int what = 0; what < 4; what++) {
            Edge.answered(atLast[what], Scene::closed, "state", 1, what);
        }
    }

    private static void door() {
        Edge.answered(-1, Scene::halfTold, "state", 1, 3);
        Edge.answered(-1, Scene::told, "state", 1, 3);
        Edge.answered(1, Scene::waiting, "state", 1, 3);
        Edge.answered(1, Scene::arrived, "state", 1, 3);
        Edge.answered(1, Scene::closed, "state", 1, 3);
        Edge.answered(0, Scene::full, "state", 1, 3);
        Edge.answered(-1, Scene::full, "state", 5, 3);
    }

    private static void object() {
        int[] want = {1, 2, 1, 50, 2};
        Supplier<ReceiveSteps> closed = Scene.after(Scene::closed, x -> x.day(50));
        for (int what = 0; what < 5; what++) {
            Edge.answered(want[what], closed, "count", what);
        }
    }

    private static void anotherWhat() {
        int[] others = {-1, 5, -2, 6, Edge.LOWEST, Edge.HIGHEST};
        for (int what : others) {
            Edge.broken(-1, Scene::closed, "count", what);
            Edge.broken(-1, ReceiveSteps::new, "count", what);
        }
    }

    private static void mostOfAll() {
        Edge.answered(16, Scene::full, "count", 0);
        Edge.answered(120, () -> Scene.roomFor(0), "count", 1);
        Edge.answered(119, () -> Scene.roomFor(1), "count", 1);
        Edge.answered(120, Scene.after(() -> Scene.roomFor(0), x -> {
            for (int u = 1; u <= 120; u++) {
                x.label(u);
            }
        }), "count", 2);
        Edge.answered(10000, Scene.after(ReceiveSteps::new, x -> x.day(10000)), "count", 3);
    }

    private static void askingChangesNothing() {
        for (int asked = 0; asked < 8; asked++) {
            int what = asked;
            Check.unchanged("asking " + what, Scene::lineClosed, x -> {
                new Call("unit", 1, what).answer(x);
                new Call("told", 1, 0, what).answer(x);
                new Call("state", 1, what).answer(x);
                new Call("count", what).answer(x);
                new Call("differ", 0, what).answer(x);
                new Call("claim", 1, what).answer(x);
            });
        }
    }

    private static void lastCall() {
        ReceiveSteps x = new ReceiveSteps();
        x.announce(0, 1);
        x.line(1, 0, 1);
        x.arrive(1, 0, true);
        x.count(1, 0, 1, 0, 0);
        x.label(1);
        for (int call = 6; call <= 512; call++) {
            Check.due("call " + call, x.again(1), call - 4);
        }
    }
}
