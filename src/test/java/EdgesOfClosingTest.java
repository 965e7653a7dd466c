import java.util.function.Supplier;

/** The edges that promises 16 to 20 name, each sentence by a test of its own. */
public final class EdgesOfClosingTest {
    public static void main(String[] args) {
        closing();
        days();
        differences();
        claims();
        Check.end();
    }

    private static void closing() {
        Check.sentence("A line of an ARRIVED announcement is closed: 1", EdgesOfClosingTest::lineClosed);
        Check.sentence("2 samples", EdgesOfClosingTest::openSamples);
        Check.sentence("3 a unit that waits", EdgesOfClosingTest::openWaiting);
        Check.sentence("4 a unit without a label that is not DAMAGED", EdgesOfClosingTest::openLabel);
        Check.sentence("or what is open, the first that holds", EdgesOfClosingTest::firstThatHolds);
        Check.sentence("4 a unit without a label that is not DAMAGED. IllegalStateException: it is not ARRIVED",
                EdgesOfClosingTest::closeNotArrived);
        Check.sentence("IllegalStateException: it is not ARRIVED, or the line is closed.", EdgesOfClosingTest::closedAlready);
        Check.sentence("An ARRIVED announcement is CLOSED, if all its lines are: 1", EdgesOfClosingTest::allClosed);
        Check.sentence("else less the first one that is not, and one (-1: line 0).", EdgesOfClosingTest::firstOpenLine);
        Check.sentence("else less the first one that is not, and one (-1: line 0). IllegalStateException: it is not ARRIVED.",
                EdgesOfClosingTest::closeAllNotArrived);
    }

    private static void days() {
        Check.sentence("It is this day.", EdgesOfClosingTest::thisDay);
        Check.sentence("It is this day. IllegalStateException: it was a later one.", EdgesOfClosingTest::laterDay);
    }

    private static void differences() {
        Check.sentence("Of the i-th closed line (in the order of closing)", EdgesOfClosingTest::orderOfClosing);
        Check.sentence("whose counts are not what was announced", EdgesOfClosingTest::whichDiffer);
        Check.sentence("0 its announcement, 1 its line, 2 counted less announced.", EdgesOfClosingTest::differWhats);
        Check.sentence("NoSuchElementException: there are not so many", EdgesOfClosingTest::notSoMany);
        Check.sentence("NoSuchElementException: there are not so many", EdgesOfClosingTest::allDiffer);
    }

    private static void claims() {
        Check.sentence("The i-th unit (upward) of an announcement that is DAMAGED", EdgesOfClosingTest::upward);
        Check.sentence("-1 if there are not so many.", EdgesOfClosingTest::notSoManyClaims);
        Check.sentence("IllegalArgumentException if i is below 0.", EdgesOfClosingTest::belowZero);
    }

    private static Supplier<ReceiveSteps> labelled() {
        return Scene.after(Scene::counted, x -> {
            x.label(1);
            x.label(2);
        });
    }

    private static void lineClosed() {
        Edge.answered(1, labelled(), "close", 1, 0);
        Edge.answered(1, Scene::arrived, "close", 1, 0);
        Supplier<ReceiveSteps> closed = Scene.after(labelled(), x -> x.close(1, 0));
        Edge.answered(1, closed, "told", 1, 0, 3);
        Edge.answered(0, closed, "told", 1, 1, 3);
        Edge.answered(1, closed, "count", 4);
        Edge.answered(1, closed, "state", 1, 0);
        Edge.answered(1, () -> Scene.linesArrived(0), "close", 1, 0);
        Edge.answered(1, () -> Scene.linesArrived(0, 0, 0, 0), "close", 1, 3);
    }

    private static void openSamples() {
        Supplier<ReceiveSteps> one = Scene.after(labelled(), x -> x.wanted(1, 0, 1));
        Edge.broken(2, one, "close", 1, 0);
        Edge.broken(2, Scene.after(labelled(), x -> x.wanted(1, 0, 5)), "close", 1, 0);
        Edge.broken(2, Scene.after(one, x -> {
            x.wanted(1, 0, 2);
            x.sample(1, 0, true);
        }), "close", 1, 0);
        Edge.answered(1, Scene.after(one, x -> x.sample(1, 0, true)), "close", 1, 0);
        Edge.answered(1, Scene.after(one, x -> x.sample(1, 0, false)), "close", 1, 0);
        Edge.answered(1, Scene.after(one, x -> x.wanted(1, 0, 0)), "close", 1, 0);
        Edge.answered(1, one, "close", 1, 1);
    }

    private static void openWaiting() {
        Supplier<ReceiveSteps> first = Scene.after(labelled(), x -> {
            x.day(50);
            x.date(1, 49);
        });
        Supplier<ReceiveSteps> last = Scene.after(labelled(), x -> {
            x.day(50);
            x.date(2, 49);
        });
        Edge.broken(3, first, "close", 1, 0);
        Edge.broken(3, last, "close", 1, 0);
        Edge.answered(1, first, "close", 1, 1);
        Edge.answered(1, Scene.after(first, x -> x.take(1, 2)), "close", 1, 0);
        Edge.answered(1, Scene.after(first, x -> x.date(1, 50)), "close", 1, 0);
        Edge.answered(1, Scene.after(first, x -> x.damaged(1, 1)), "close", 1, 0);
        Edge.answered(1, Scene.after(labelled(), x -> {
            x.date(1, 0);
            x.day(50);
        }), "close", 1, 0);
    }

    private static void openLabel() {
        Edge.broken(4, Scene::counted, "close", 1, 0);
        Edge.broken(4, Scene.after(Scene::counted, x -> x.label(1)), "close", 1, 0);
        Edge.broken(4, Scene.after(Scene::counted, x -> x.label(2)), "close", 1, 0);
        Edge.broken(4, Scene::broken, "close", 1, 0);
        Edge.answered(1, Scene::counted, "close", 1, 1);
        Edge.answered(1, Scene.after(Scene::broken, x -> x.label(1)), "close", 1, 0);
        Edge.answered(1, Scene.after(Scene::broken, x -> x.damaged(1, 1)), "close", 1, 0);
        Edge.broken(4, Scene.after(Scene::counted, x -> {
            x.wanted(1, 0, 1);
            x.sample(1, 0, false);
        }), "close", 1, 0);
        Supplier<ReceiveSteps> lastOfEight = Scene.after(Scene::eightUnits, x -> {
            for (int u = 1; u < 8; u++) {
                x.label(u);
            }
        });
        Edge.broken(4, lastOfEight, "close", 1, 0);
        Edge.answered(1, Scene.after(lastOfEight, x -> x.label(8)), "close", 1, 0);
    }

    /** Every two of them at once, and all three. */
    private static void firstThatHolds() {
        Edge.broken(2, Scene.after(Scene::late, x -> x.wanted(1, 0, 1)), "close", 1, 0);
        Edge.broken(2, Scene.after(Scene::counted, x -> x.wanted(1, 0, 1)), "close", 1, 0);
        Edge.broken(2, Scene.after(Scene::late, x -> {
            x.label(1);
            x.label(2);
            x.wanted(1, 0, 1);
        }), "close", 1, 0);
        Edge.broken(3, Scene::late, "close", 1, 0);
        Edge.broken(3, Scene.after(Scene::late, x -> x.label(1)), "close", 1, 0);
        Edge.broken(3, Scene.after(Scene::late, x -> x.label(2)), "close", 1, 0);
    }

    private static void closeNotArrived() {
        Edge.refused(Edge.NOW, Scene::halfTold, "close", 1, 0);
        Edge.refused(Edge.NOW, Scene::told, "close", 1, 0);
        Edge.refused(Edge.NOW, Scene::waiting, "close", 1, 0);
        Edge.refused(Edge.NOW, Scene.after(Scene::waiting, x -> x.wanted(1, 0, 1)), "close", 1, 0);
        Edge.refused(Edge.NOW, Scene::closed, "close", 1, 1);
    }

    private static void closedAlready() {
        Edge.refused(Edge.NOW, Scene::lineClosed, "close", 1, 0);
        Edge.answered(1, Scene::lineClosed, "close", 1, 1);
        Edge.refused(Edge.NOW, Scene::closed, "close", 1, 0);
    }

    private static void allClosed() {
        for (int lines = 1; lines <= 4; lines++) {
            int[] pieces = new int[lines];
            Supplier<ReceiveSteps> closed = Scene.after(() -> Scene.linesArrived(pieces), x -> closeLines(x, pieces.length));
            Edge.answered(1, closed, "closeAll", 1);
            Edge.answered(1, closed, "state", 1, 0);
            Edge.answered(3, Scene.after(closed, x -> x.closeAll(1)), "state", 1, 0);
            Edge.answered(lines, Scene.after(closed, x -> x.closeAll(1)), "count", 4);
        }
    }

    private static void closeLines(ReceiveSteps x, int many) {
        for (int line = 0; line < many; line++) {
            x.close(1, line);
        }
    }

    private static void firstOpenLine() {
        Supplier<ReceiveSteps> four = () -> Scene.linesArrived(0, 0, 0, 0);
        for (int closed = 0; closed < 4; closed++) {
            int many = closed;
            Edge.broken(-1 - closed, Scene.after(four, x -> closeLines(x, many)), "closeAll", 1);
        }
        Edge.broken(-1, Scene.after(four, x -> x.close(1, 3)), "closeAll", 1);
        Edge.broken(-2, Scene.after(four, x -> {
            x.close(1, 0);
            x.close(1, 2);
            x.close(1, 3);
        }), "closeAll", 1);
        Edge.broken(-1, () -> Scene.linesArrived(0), "closeAll", 1);
    }

    private static void closeAllNotArrived() {
        Edge.refused(Edge.NOW, Scene.after(ReceiveSteps::new, x -> x.announce(0, 1)), "closeAll", 1);
        Edge.refused(Edge.NOW, Scene::halfTold, "closeAll", 1);
        Edge.refused(Edge.NOW, Scene::told, "closeAll", 1);
        Edge.refused(Edge.NOW, Scene::waiting, "closeAll", 1);
        Edge.refused(Edge.NOW, Scene::closed, "closeAll", 1);
    }

    private static void thisDay() {
        int[] days = {0, 1, 9999, 10000};
        for (int day : days) {
            Edge.answered(day, Scene.after(Scene::counted, x -> x.day(day)), "count", 3);
        }
    }

    private static void laterDay() {
        Edge.answered(0, Scene::late, "day", 50);
        Edge.answered(0, Scene::late, "day", 51);
        Edge.refused(Edge.NOW, Scene::late, "day", 49);
        Edge.refused(Edge.NOW, Scene::late, "day", 0);
        Supplier<ReceiveSteps> lastDay = Scene.after(Scene::counted, x -> x.day(10000));
        Edge.answered(0, lastDay, "day", 10000);
        Edge.refused(Edge.NOW, lastDay, "day", 9999);
        Supplier<ReceiveSteps> dayOne = Scene.after(Scene::counted, x -> x.day(1));
        Edge.refused(Edge.NOW, dayOne, "day", 0);
        Edge.answered(0, dayOne, "day", 1);
    }

    /** Lines 3, 0 and 2 of announcement 2 are closed before line 1 of announcement 1. */
    private static ReceiveSteps differing() {
        ReceiveSteps x = Scene.arrived();
        x.announce(0, 4);
        for (int line = 0; line < 4; line++) {
            x.line(2, 0, 10 + line);
        }
        x.arrive(2, 0, true);
        x.close(2, 3);
        x.close(2, 0);
        x.close(2, 2);
        x.close(1, 1);
        return x;
    }

    private static void orderOfClosing() {
        int[][] want = {{2, 3, -13}, {2, 0, -10}, {2, 2, -12}, {1, 1, -30}};
        for (int i = 0; i < want.length; i++) {
            for (int what = 0; what < 3; what++) {
                Edge.answered(want[i][what], EdgesOfClosingTest::differing, "differ", i, what);
            }
        }
    }

    /** One line of so many pieces of which so many are counted, closed. */
    private static ReceiveSteps closedWith(int announced, int counted) {
        ReceiveSteps x = Scene.linesArrived(announced);
        x.tolerance(1, 0, 50);
        if (counted > 0) {
            x.count(1, 0, counted, 0, 0);
        }
        for (int u = 1; u <= x.count(1); u++) {
            x.label(u);
        }
        x.close(1, 0);
        return x;
    }

    private static void whichDiffer() {
        Edge.refused(Edge.NONE, () -> closedWith(100, 100), "differ", 0, 0);
        Edge.refused(Edge.NONE, () -> closedWith(0, 0), "differ", 0, 0);
        Edge.answered(1, () -> closedWith(100, 99), "differ", 0, 0);
        Edge.answered(1, () -> closedWith(100, 101), "differ", 0, 0);
        Edge.refused(Edge.NONE, Scene::counted, "differ", 0, 0);
        Supplier<ReceiveSteps> second = Scene.after(() -> closedWith(100, 100), x -> {
            x.announce(0, 1);
            x.line(2, 0, 1);
            x.arrive(2, 1, true);
            x.close(2, 0);
        });
        Edge.answered(2, second, "differ", 0, 0);
        Edge.refused(Edge.NONE, second, "differ", 1, 0);
        Edge.answered(2, second, "count", 4);
        Edge.answered(1, Scene::closed, "differ", 0, 0);
        Edge.answered(-60, Scene::closed, "differ", 0, 2);
    }

    private static void differWhats() {
        Edge.range(0, 2, 1, EdgesOfClosingTest::differing, "differ", 3, 0);
        Edge.answered(-1, () -> closedWith(100, 99), "differ", 0, 2);
        Edge.answered(1, () -> closedWith(100, 101), "differ", 0, 2);
        Edge.answered(-400, () -> closedWith(400, 0), "differ", 0, 2);
        ReceiveSteps most = Scene.eightUnits();
        most.tolerance(1, 0, 50);
        most.count(1, 0, 200, 0, 1);
        for (int u = 1; u <= 12; u++) {
            most.label(u);
        }
        most.close(1, 0);
        Check.due("the most too many", most.differ(0, 2), 200);
    }

    private static void notSoMany() {
        Edge.none(new int[] {-1, 4, 63, 64, Edge.LOWEST, Edge.HIGHEST}, 0, EdgesOfClosingTest::differing, "differ", 0, 0);
        Edge.none(new int[] {0, -1, 1}, 0, ReceiveSteps::new, "differ", 0, 0);
        Edge.none(new int[] {0}, 0, Scene::arrived, "differ", 0, 0);
    }

    /** All 64 lines that there can be. */
    private static ReceiveSteps all() {
        ReceiveSteps x = new ReceiveSteps();
        for (int a = 1; a <= 16; a++) {
            x.announce(0, 4);
            for (int line = 0; line < 4; line++) {
                x.line(a, 0, 4 * a + line);
            }
            x.arrive(a, 0, true);
            for (int line = 3; line >= 0; line--) {
                x.close(a, line);
            }
            x.closeAll(a);
        }
        return x;
    }

    private static void allDiffer() {
        Edge.answered(64, EdgesOfClosingTest::all, "count", 4);
        Edge.answered(1, EdgesOfClosingTest::all, "differ", 0, 0);
        Edge.answered(3, EdgesOfClosingTest::all, "differ", 0, 1);
        Edge.answered(-7, EdgesOfClosingTest::all, "differ", 0, 2);
        Edge.answered(16, EdgesOfClosingTest::all, "differ", 63, 0);
        Edge.answered(0, EdgesOfClosingTest::all, "differ", 63, 1);
        Edge.answered(-64, EdgesOfClosingTest::all, "differ", 63, 2);
        int[] others = {-1, 64, 65};
        for (int i : others) {
            Check.due("differ(" + i + ", 0) of all", new Call("differ", i, 0).answer(all()).equals(Edge.NONE) ? 1 : 0, 1);
        }
    }

    /** Units 8, 1 and 5 of announcement 1 are damaged in this order, then unit 9 of announcement 2. */
    private static ReceiveSteps damagedMixed() {
        ReceiveSteps x = Scene.eightUnits();
        x.announce(0, 1);
        x.line(2, 0, 100);
        x.arrive(2, 1, true);
        x.count(2, 0, 100, 0, 0);
        x.damaged(8, 1);
        x.damaged(1, 1);
        x.damaged(5, 1);
        x.damaged(9, 1);
        return x;
    }

    private static void upward() {
        int[] want = {1, 5, 8};
        for (int i = 0; i < 3; i++) {
            Edge.answered(want[i], EdgesOfClosingTest::damagedMixed, "claim", 1, i);
        }
        Edge.answered(9, EdgesOfClosingTest::damagedMixed, "claim", 2, 0);
        Edge.answered(2, Scene::closed, "claim", 1, 0);
        Supplier<ReceiveSteps> bothLines = Scene.after(Scene::arrived, x -> {
            x.count(1, 1, 30, 0, 0);
            x.count(1, 0, 50, 0, 0);
            x.damaged(2, 1);
            x.damaged(1, 1);
        });
        Edge.answered(1, bothLines, "claim", 1, 0);
        Edge.answered(2, bothLines, "claim", 1, 1);
        Supplier<ReceiveSteps> last = Scene.after(() -> Scene.roomFor(0), x -> x.damaged(120, 9));
        Edge.answered(120, last, "claim", 4, 0);
        Edge.answered(-1, last, "claim", 3, 0);
    }

    private static void notSoManyClaims() {
        Edge.answered(-1, EdgesOfClosingTest::damagedMixed, "claim", 1, 3);
        Edge.answered(-1, EdgesOfClosingTest::damagedMixed, "claim", 2, 1);
        Edge.answered(-1, EdgesOfClosingTest::damagedMixed, "claim", 1, Edge.HIGHEST);
        Edge.answered(-1, Scene::counted, "claim", 1, 0);
        Edge.answered(-1, Scene::halfTold, "claim", 1, 0);
        Edge.answered(-1, Scene::late, "claim", 1, 0);
        Edge.answered(-1, Scene.after(Scene::counted, x -> {
            x.wanted(1, 0, 1);
            x.sample(1, 0, false);
        }), "claim", 1, 0);
    }

    private static void belowZero() {
        Edge.refused(Edge.RANGE, Scene::broken, "claim", 1, -1);
        Edge.refused(Edge.RANGE, Scene::broken, "claim", 1, Edge.LOWEST);
        Edge.refused(Edge.RANGE, Scene::halfTold, "claim", 1, -1);
        Edge.answered(2, Scene::broken, "claim", 1, 0);
    }
}
