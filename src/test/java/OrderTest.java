import java.util.function.Supplier;

/** Two refusals at once, of every call that has two: the first of the document's order holds, and nothing changes. */
public final class OrderTest {
    private static final String SENTENCE = "REFUSALS, the first that holds: NoSuchElementException: an announcement, line"
            + " or unit that there is not; IllegalArgumentException: another number outside its range;"
            + " IllegalStateException: not as it is now; UnsupportedOperationException: no room.";

    public static void main(String[] args) {
        Check.sentence(SENTENCE, OrderTest::announce);
        Check.sentence(SENTENCE, OrderTest::line);
        Check.sentence(SENTENCE, OrderTest::arrive);
        Check.sentence(SENTENCE, OrderTest::accept);
        Check.sentence(SENTENCE, OrderTest::tolerance);
        Check.sentence(SENTENCE, OrderTest::wanted);
        Check.sentence(SENTENCE, OrderTest::countNoneFirst);
        Check.sentence(SENTENCE, OrderTest::countRangeFirst);
        Check.sentence(SENTENCE, OrderTest::countRoomLast);
        Check.sentence(SENTENCE, OrderTest::damaged);
        Check.sentence(SENTENCE, OrderTest::sample);
        Check.sentence(SENTENCE, OrderTest::date);
        Check.sentence(SENTENCE, OrderTest::take);
        Check.sentence(SENTENCE, OrderTest::again);
        Check.sentence(SENTENCE, OrderTest::close);
        Check.sentence(SENTENCE, OrderTest::closeAll);
        Check.sentence(SENTENCE, OrderTest::day);
        Check.sentence(SENTENCE, OrderTest::asking);
        Check.sentence("What is refused changes nothing.", OrderTest::manyRefusals);
        Check.end();
    }

    private static void announce() {
        Edge.refused(Edge.RANGE, Scene::full, "announce", 8, 1);
        Edge.refused(Edge.RANGE, Scene::full, "announce", -1, 1);
        Edge.refused(Edge.RANGE, Scene::full, "announce", 0, 0);
        Edge.refused(Edge.RANGE, Scene::full, "announce", 0, 5);
        Edge.refused(Edge.RANGE, Scene::full, "announce", 8, 5);
    }

    private static void line() {
        Edge.refused(Edge.NONE, Scene::halfTold, "line", 2, 10, 0);
        Edge.refused(Edge.NONE, Scene::halfTold, "line", 0, 0, 401);
        Edge.refused(Edge.NONE, Scene::closed, "line", 2, 0, 0);
        Edge.refused(Edge.RANGE, Scene::told, "line", 1, 10, 0);
        Edge.refused(Edge.RANGE, Scene::told, "line", 1, -1, 0);
        Edge.refused(Edge.RANGE, Scene::told, "line", 1, 0, 401);
        Edge.refused(Edge.RANGE, Scene::told, "line", 1, 0, -1);
        Edge.refused(Edge.RANGE, Scene::closed, "line", 1, 10, 0);
        Edge.refused(Edge.RANGE, Scene::closed, "line", 1, 0, 401);
    }

    private static void arrive() {
        Edge.refused(Edge.NONE, Scene::told, "arrive", 2, 4, 1);
        Edge.refused(Edge.NONE, Scene::told, "arrive", 0, -1, 1);
        Edge.refused(Edge.NONE, Scene::arrived, "arrive", 2, 1, 1);
        Edge.refused(Edge.RANGE, Scene::halfTold, "arrive", 1, 4, 1);
        Edge.refused(Edge.RANGE, Scene::waiting, "arrive", 1, 4, 1);
        Edge.refused(Edge.RANGE, Scene::arrived, "arrive", 1, -1, 1);
        Edge.refused(Edge.RANGE, Scene::closed, "arrive", 1, 4, 1);
        Edge.refused(Edge.RANGE, Scene::full, "arrive", 5, 4, 1);
        Edge.refused(Edge.NOW, Scene.after(Scene::arrived, x -> x.announce(0, 1)), "arrive", 2, 1, 1);
    }

    private static void accept() {
        Edge.refused(Edge.NONE, Scene::waiting, "accept", 2, 8);
        Edge.refused(Edge.NONE, Scene::waiting, "accept", 0, -1);
        Edge.refused(Edge.NONE, Scene::waiting, "accept", 2, 3);
        Edge.refused(Edge.RANGE, Scene::told, "accept", 1, 8);
        Edge.refused(Edge.RANGE, Scene::arrived, "accept", 1, -1);
        Edge.refused(Edge.RANGE, Scene::closed, "accept", 1, 8);
        Edge.refused(Edge.NOW, Scene::arrived, "accept", 1, 3);
    }

    private static void tolerance() {
        Edge.refused(Edge.NONE, Scene::counted, "tolerance", 2, 0, 51);
        Edge.refused(Edge.NONE, Scene::counted, "tolerance", 1, 2, 51);
        Edge.refused(Edge.NONE, Scene::counted, "tolerance", 1, -1, -1);
        Edge.refused(Edge.NONE, Scene::closed, "tolerance", 2, 0, 1);
        Edge.refused(Edge.NONE, Scene::closed, "tolerance", 1, 2, 1);
        Edge.refused(Edge.RANGE, Scene::lineClosed, "tolerance", 1, 0, 51);
        Edge.refused(Edge.RANGE, Scene::closed, "tolerance", 1, 0, -1);
    }

    private static void wanted() {
        Edge.refused(Edge.NONE, Scene::counted, "wanted", 2, 0, 6);
        Edge.refused(Edge.NONE, Scene::counted, "wanted", 1, 2, 6);
        Edge.refused(Edge.NONE, Scene::counted, "wanted", 1, -1, -1);
        Edge.refused(Edge.NONE, Scene::closed, "wanted", 2, 0, 1);
        Edge.refused(Edge.NONE, Scene::closed, "wanted", 1, 2, 1);
        Edge.refused(Edge.RANGE, Scene::lineClosed, "wanted", 1, 0, 6);
        Edge.refused(Edge.RANGE, Scene::closed, "wanted", 1, 0, -1);
    }

    /** An announcement or line that there is not, before a number outside its range, what is broken, and no room. */
    private static void countNoneFirst() {
        Supplier<ReceiveSteps> noUnits = () -> Scene.roomFor(0);
        Edge.refused(Edge.NONE, Scene::arrived, "countPieces", 2, 0, 0, 0, 0);
        Edge.refused(Edge.NONE, Scene::arrived, "countPieces", 1, 2, 401, 0, 0);
        Edge.refused(Edge.NONE, Scene::arrived, "countPieces", 1, -1, 1, 100, 0);
        Edge.refused(Edge.NONE, Scene::arrived, "countPieces", 1, 2, 1, 0, 8);
        Edge.refused(Edge.NONE, Scene::told, "countPieces", 1, 2, 1, 0, 0);
        Edge.refused(Edge.NONE, Scene::closed, "countPieces", 1, 2, 1, 0, 3);
        Edge.refused(Edge.NONE, noUnits, "countPieces", 5, 0, 1, 0, 0);
        Edge.refused(Edge.NONE, noUnits, "countPieces", 4, 4, 400, 0, 0);
    }

    /** Each number outside its range, before each thing that is broken, and no room. */
    private static void countRangeFirst() {
        int[][] outside = {{0, 0, 0}, {401, 0, 0}, {1, -1, 0}, {1, 100, 0}, {1, 0, -1}, {1, 0, 8}};
        for (int[] bad : outside) {
            Edge.refused(Edge.RANGE, Scene::told, "countPieces", 1, 0, bad[0], bad[1], bad[2]);
            Edge.refused(Edge.RANGE, Scene::lineClosed, "countPieces", 1, 0, bad[0], bad[1], bad[2]);
            Edge.refused(Edge.RANGE, () -> Scene.linesArrived(0), "countPieces", 1, 0, bad[0], bad[1], bad[2]);
            Edge.refused(Edge.RANGE, () -> Scene.roomFor(0), "countPieces", 4, 3, bad[0], bad[1], bad[2]);
        }
        Edge.refused(Edge.RANGE, Scene::counted, "countPieces", 1, 0, 0, 0, 3);
        Edge.refused(Edge.RANGE, Scene::counted, "countPieces", 1, 0, 1, 100, 3);
    }

    /** Each thing that is broken, before no room. */
    private static void countRoomLast() {
        Supplier<ReceiveSteps> noUnits = () -> Scene.roomFor(0);
        Edge.refused(Edge.ROOM, noUnits, "countPieces", 4, 3, 1, 0, 0);
        Edge.broken(-1, Scene.after(noUnits, x -> {
            x.announce(0, 1);
            x.line(5, 0, 400);
        }), "countPieces", 5, 0, 1, 0, 0);
        Edge.broken(-2, Scene.after(noUnits, x -> x.close(4, 3)), "countPieces", 4, 3, 1, 0, 0);
        Supplier<ReceiveSteps> takesMore = Scene.after(noUnits, x -> x.tolerance(4, 2, 50));
        Edge.broken(-3, takesMore, "countPieces", 4, 2, 1, 0, 0);
        Edge.refused(Edge.ROOM, takesMore, "countPieces", 4, 2, 200, 0, 1);
        Edge.broken(-4, takesMore, "countPieces", 4, 2, 201, 0, 1);
    }

    private static void damaged() {
        Edge.refused(Edge.NONE, Scene::counted, "damaged", 3, 0);
        Edge.refused(Edge.NONE, Scene::counted, "damaged", 0, 10);
        Edge.refused(Edge.NONE, Scene::closed, "damaged", 3, 1);
        Edge.refused(Edge.RANGE, Scene::broken, "damaged", 2, 0);
        Edge.refused(Edge.RANGE, Scene::broken, "damaged", 2, 10);
        Edge.refused(Edge.RANGE, Scene::lineClosed, "damaged", 1, 0);
        Edge.refused(Edge.RANGE, Scene::lineClosed, "damaged", 1, 10);
        Edge.refused(Edge.NOW, Scene::lineClosed, "damaged", 2, 1);
    }

    private static void sample() {
        Edge.refused(Edge.NONE, Scene::told, "sample", 2, 0, 0);
        Edge.refused(Edge.NONE, Scene::told, "sample", 1, 2, 0);
        Edge.refused(Edge.NONE, Scene::lineClosed, "sample", 1, -1, 0);
        Edge.refused(Edge.NONE, Scene::arrived, "sample", 1, 2, 0);
        Edge.refused(Edge.NOW, Scene::closed, "sample", 1, 0, 0);
        Edge.refused(Edge.NOW, Scene::told, "sample", 1, 0, 0);
    }

    private static void date() {
        Edge.refused(Edge.NONE, Scene::counted, "date", 3, -1);
        Edge.refused(Edge.NONE, Scene::counted, "date", 0, 10001);
        Edge.refused(Edge.NONE, Scene::closed, "date", 3, 1);
        Edge.refused(Edge.RANGE, Scene::broken, "date", 2, -1);
        Edge.refused(Edge.RANGE, Scene::broken, "date", 2, 10001);
        Edge.refused(Edge.RANGE, Scene::lineClosed, "date", 1, -1);
        Edge.refused(Edge.RANGE, Scene::lineClosed, "date", 1, 10001);
        Edge.refused(Edge.NOW, Scene::lineClosed, "date", 2, 1);
    }

    private static void take() {
        Edge.refused(Edge.NONE, Scene::late, "take", 3, 8);
        Edge.refused(Edge.NONE, Scene::late, "take", 0, -1);
        Edge.refused(Edge.NONE, Scene::late, "take", 3, 3);
        Edge.refused(Edge.RANGE, Scene::late, "take", 2, 8);
        Edge.refused(Edge.RANGE, Scene::late, "take", 2, -1);
        Edge.refused(Edge.RANGE, Scene::closed, "take", 2, 8);
        Edge.refused(Edge.NOW, Scene::late, "take", 2, 3);
    }

    private static void again() {
        Edge.refused(Edge.NONE, Scene::counted, "again", 3);
        Edge.refused(Edge.NONE, Scene::counted, "again", 0);
        Edge.refused(Edge.NOW, Scene::counted, "again", 2);
    }

    /** Before what is open too: one that has not come may have open samples. */
    private static void close() {
        Edge.refused(Edge.NONE, Scene::told, "close", 2, 0);
        Edge.refused(Edge.NONE, Scene::told, "close", 1, 2);
        Edge.refused(Edge.NONE, Scene::closed, "close", 1, -1);
        Edge.refused(Edge.NOW, Scene.after(Scene::told, x -> x.wanted(1, 0, 1)), "close", 1, 0);
        Edge.refused(Edge.NOW, Scene.after(Scene::waiting, x -> x.wanted(1, 0, 1)), "close", 1, 0);
        Edge.refused(Edge.NOW, Scene::closed, "close", 1, 0);
    }

    /** Before the lines that are open too. */
    private static void closeAll() {
        Edge.refused(Edge.NONE, Scene::told, "closeAll", 2);
        Edge.refused(Edge.NONE, Scene::closed, "closeAll", 0);
        Edge.refused(Edge.NOW, Scene::told, "closeAll", 1);
        Edge.refused(Edge.NOW, Scene::waiting, "closeAll", 1);
    }

    private static void day() {
        Edge.refused(Edge.RANGE, Scene::late, "day", -1);
        Edge.refused(Edge.RANGE, Scene::late, "day", Edge.LOWEST);
    }

    private static void asking() {
        int[] outside = {-1, 8, Edge.LOWEST, Edge.HIGHEST};
        for (int what : outside) {
            Edge.refused(Edge.NONE, Scene::counted, "unit", 3, what);
            Edge.refused(Edge.NONE, Scene::counted, "unit", 0, what);
            Edge.refused(Edge.NONE, Scene::counted, "told", 2, 0, what);
            Edge.refused(Edge.NONE, Scene::counted, "told", 1, 2, what);
            Edge.refused(Edge.NONE, Scene::counted, "state", 2, what);
            Edge.refused(Edge.NONE, Scene::counted, "state", 0, what);
            Edge.refused(Edge.NONE, Scene::closed, "differ", 2, what);
            Edge.refused(Edge.NONE, Scene::closed, "differ", -1, what);
        }
        Edge.refused(Edge.NONE, Scene::broken, "claim", 2, -1);
        Edge.refused(Edge.NONE, Scene::broken, "claim", 0, -1);
    }

    /** Many in a row, of every call, on an object that is in the midst of a receiving. */
    private static void manyRefusals() {
        Call[] calls = {new Call("announce", 8, 1), new Call("line", 1, 0, 0), new Call("arrive", 1, 0, 1),
            new Call("accept", 1, 2), new Call("right", 8, 1), new Call("tolerance", 1, 0, 51), new Call("wanted", 1, 0, 6),
            new Call("countPieces", 1, 0, 1, 0, 8), new Call("damaged", 1, 10), new Call("sample", 1, 0, 0),
            new Call("date", 1, 10001), new Call("take", 2, 2), new Call("label", 3), new Call("again", 1),
            new Call("close", 1, 2), new Call("closeAll", 2), new Call("day", 49), new Call("differ", 0, 0),
            new Call("claim", 1, -1), new Call("unit", 1, 8), new Call("told", 1, 0, 7), new Call("state", 1, 4)};
        for (Call call : calls) {
            if (!call.answer(Scene.late()).startsWith("throws.")) {
                Check.tell(call + " is not refused");
            }
        }
        Check.unchanged("many refusals", Scene::late, x -> {
            for (int k = 0; k < 10; k++) {
                for (Call call : calls) {
                    call.answer(x);
                }
            }
        });
    }
}
