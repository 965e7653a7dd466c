import java.util.function.Supplier;

/** The edges that promise 9 names, each sentence by a test of its own. */
public final class EdgesOfCountingTest {
    public static void main(String[] args) {
        Check.sentence("A person counts n (1 .. 400) pieces of a lot: how many units are made", EdgesOfCountingTest::pieces);
        Check.sentence("-1 it is not ARRIVED", EdgesOfCountingTest::notArrived);
        Check.sentence("-2 the line is closed", EdgesOfCountingTest::lineClosed);
        Check.sentence("-3 this person counted it already", EdgesOfCountingTest::countedAlready);
        Check.sentence("-4 it would have more than it takes", EdgesOfCountingTest::tooMany);
        Check.sentence("or what it breaks, the first that holds", EdgesOfCountingTest::firstThatHolds);
        Check.sentence("UnsupportedOperationException: not so many units more (none is made then).",
                EdgesOfCountingTest::noRoom);
        Check.sentence("UnsupportedOperationException: not so many units more (none is made then).",
                EdgesOfCountingTest::noneIsMade);
        Check.end();
    }

    private static void pieces() {
        Edge.range(1, 400, 2, () -> Scene.linesArrived(400), "countPieces", 1, 0, 1, 0, 0);
        Edge.answered(1, () -> Scene.linesArrived(400), "countPieces", 1, 0, 1, 0, 0);
        Edge.answered(8, () -> Scene.linesArrived(400), "countPieces", 1, 0, 400, 0, 0);
        Supplier<ReceiveSteps> takesMore = Scene.after(() -> Scene.linesArrived(400), x -> x.tolerance(1, 0, 50));
        Edge.range(1, 400, 2, takesMore, "countPieces", 1, 0, 1, 0, 0);
    }

    private static void notArrived() {
        Edge.broken(-1, Scene::halfTold, "countPieces", 1, 0, 1, 0, 0);
        Edge.broken(-1, Scene::told, "countPieces", 1, 0, 1, 0, 0);
        Edge.broken(-1, Scene::waiting, "countPieces", 1, 0, 1, 0, 0);
        Edge.broken(-1, Scene::closed, "countPieces", 1, 0, 1, 0, 0);
        Edge.answered(1, Scene::arrived, "countPieces", 1, 0, 1, 0, 0);
    }

    private static void lineClosed() {
        Edge.broken(-2, Scene::lineClosed, "countPieces", 1, 0, 1, 0, 0);
        Edge.answered(1, Scene::lineClosed, "countPieces", 1, 1, 1, 0, 0);
        Edge.broken(-2, Scene.after(Scene::lineClosed, x -> x.close(1, 1)), "countPieces", 1, 1, 1, 0, 0);
    }

    /** Each person by itself, each line by itself; a count that was broken is none. */
    private static void countedAlready() {
        for (int person = 0; person < 8; person++) {
            int one = person;
            Supplier<ReceiveSteps> once = Scene.after(Scene::arrived, x -> x.count(1, 0, 1, 0, one));
            Edge.broken(-3, once, "countPieces", 1, 0, 1, 0, person);
            Edge.broken(-3, once, "countPieces", 1, 0, 1, 99, person);
            Edge.answered(1, once, "countPieces", 1, 1, 1, 0, person);
            Edge.answered(1, once, "countPieces", 1, 0, 1, 0, (person + 1) % 8);
            Supplier<ReceiveSteps> brokenOnce = Scene.after(Scene::arrived, x -> x.count(1, 0, 121, 0, one));
            Edge.answered(3, brokenOnce, "countPieces", 1, 0, 120, 0, person);
        }
        Supplier<ReceiveSteps> everybody = Scene.after(Scene::arrived, x -> {
            for (int person = 0; person < 8; person++) {
                x.count(1, 0, 1, 0, person);
            }
        });
        for (int person = 0; person < 8; person++) {
            Edge.broken(-3, everybody, "countPieces", 1, 0, 1, 0, person);
            Edge.answered(1, everybody, "countPieces", 1, 1, 1, 0, person);
        }
        Edge.answered(8, everybody, "told", 1, 0, 2);
    }

    private static void tooMany() {
        Edge.broken(-4, Scene::arrived, "countPieces", 1, 0, 121, 0, 0);
        Edge.answered(3, Scene::arrived, "countPieces", 1, 0, 120, 0, 0);
        Edge.broken(-4, Scene::counted, "countPieces", 1, 0, 61, 0, 0);
        Edge.answered(2, Scene::counted, "countPieces", 1, 0, 60, 0, 0);
        Edge.broken(-4, Scene.after(Scene::counted, x -> x.count(1, 0, 60, 0, 0)), "countPieces", 1, 0, 1, 0, 1);
        Supplier<ReceiveSteps> tolerant = Scene.after(Scene::counted, x -> x.tolerance(1, 0, 10));
        Edge.broken(-4, tolerant, "countPieces", 1, 0, 73, 0, 0);
        Edge.answered(2, tolerant, "countPieces", 1, 0, 72, 0, 0);
        Edge.broken(-4, () -> Scene.linesArrived(0), "countPieces", 1, 0, 1, 0, 0);
        Edge.broken(-4, Scene.after(() -> Scene.linesArrived(1), x -> x.tolerance(1, 0, 50)),
                "countPieces", 1, 0, 2, 0, 0);
    }

    /** Every two of them at once. */
    private static void firstThatHolds() {
        Edge.broken(-1, Scene::closed, "countPieces", 1, 0, 1, 0, 0);
        Edge.broken(-1, Scene::closed, "countPieces", 1, 0, 1, 0, 3);
        Edge.broken(-1, Scene::waiting, "countPieces", 1, 0, 121, 0, 0);
        Edge.broken(-2, Scene::lineClosed, "countPieces", 1, 0, 1, 0, 3);
        Edge.broken(-2, Scene::lineClosed, "countPieces", 1, 0, 61, 0, 0);
        Edge.broken(-3, Scene::counted, "countPieces", 1, 0, 61, 0, 3);
        Edge.broken(-1, Scene::closed, "countPieces", 1, 0, 400, 0, 3);
        Edge.broken(-2, Scene::lineClosed, "countPieces", 1, 0, 400, 0, 3);
    }

    private static void noRoom() {
        Edge.answered(8, () -> Scene.roomFor(8), "countPieces", 4, 3, 400, 0, 0);
        Edge.refused(Edge.ROOM, () -> Scene.roomFor(7), "countPieces", 4, 3, 400, 0, 0);
        Edge.refused(Edge.ROOM, () -> Scene.roomFor(7), "countPieces", 4, 3, 351, 0, 0);
        Edge.answered(7, () -> Scene.roomFor(7), "countPieces", 4, 3, 350, 0, 0);
        Edge.refused(Edge.ROOM, () -> Scene.roomFor(1), "countPieces", 4, 3, 51, 0, 0);
        Edge.answered(1, () -> Scene.roomFor(1), "countPieces", 4, 3, 50, 0, 0);
        Edge.answered(1, () -> Scene.roomFor(1), "countPieces", 4, 3, 1, 0, 0);
        Edge.refused(Edge.ROOM, () -> Scene.roomFor(0), "countPieces", 4, 3, 1, 0, 0);
        Edge.refused(Edge.ROOM, () -> Scene.roomFor(0), "countPieces", 4, 3, 400, 0, 0);
    }

    /** Nor has the person counted: the same one may count less. */
    private static void noneIsMade() {
        ReceiveSteps x = Scene.roomFor(1);
        Check.due("too many units: " + Edge.ROOM, new Call("countPieces", 4, 3, 51, 0, 7).answer(x).equals(Edge.ROOM) ? 1 : 0, 1);
        Check.due("units", x.count(1), 119);
        Check.due("counted", x.told(4, 3, 2), 0);
        Check.due("the same person", x.count(4, 3, 50, 0, 7), 1);
        Check.due("units", x.count(1), 120);
        Check.due("counted", x.told(4, 3, 2), 50);
    }
}
