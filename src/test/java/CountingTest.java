import java.util.NoSuchElementException;

/** Promises 7 to 9: tolerance, wanted, count of pieces into units. */
public final class CountingTest {
    private static final Class<?> NONE = NoSuchElementException.class;
    private static final Class<?> RANGE = IllegalArgumentException.class;
    private static final Class<?> NOW = IllegalStateException.class;
    private static final Class<?> ROOM = UnsupportedOperationException.class;

    public static void main(String[] args) {
        tolerance();
        toleranceRefused();
        wanted();
        wantedRefused();
        units();
        countRefused();
        countBreaks();
        orderOfBreaks();
        noRoom();
        Check.end();
    }

    private static int takes(int announced, int hundredths) {
        ReceiveSteps x = new ReceiveSteps();
        x.announce(0, 1);
        x.line(1, 0, announced);
        Check.due("takes at first", x.told(1, 0, 6), announced);
        x.tolerance(1, 0, hundredths);
        return x.told(1, 0, 6);
    }

    private static void tolerance() {
        Check.due("0 and 50/100", takes(0, 50), 0);
        Check.due("400 and 50/100", takes(400, 50), 600);
        Check.due("400 and 0/100", takes(400, 0), 400);
        Check.due("19 and 5/100", takes(19, 5), 19);
        Check.due("20 and 5/100", takes(20, 5), 21);
        Check.due("199 and 1/100", takes(199, 1), 200);
        Check.due("99 and 50/100", takes(99, 50), 148);
        ReceiveSteps x = Scene.counted();
        x.tolerance(1, 1, 50);
        Check.due("the other line takes", x.told(1, 0, 6), 120);
        Check.due("this line takes", x.told(1, 1, 6), 45);
        x.tolerance(1, 1, 0);
        Check.due("this line takes again", x.told(1, 1, 6), 30);
    }

    private static void toleranceRefused() {
        Check.refused("tolerance(2, 0, 51)", NONE, Scene::counted, y -> y.tolerance(2, 0, 51));
        Check.refused("tolerance(1, 2, 51)", NONE, Scene::counted, y -> y.tolerance(1, 2, 51));
        Check.refused("tolerance(1, -1, 5)", NONE, Scene::counted, y -> y.tolerance(1, -1, 5));
        Check.refused("a line that is not told yet", NONE, Scene::halfTold, y -> y.tolerance(1, 1, 5));
        Check.refused("tolerance(1, 0, 51)", RANGE, Scene::counted, y -> y.tolerance(1, 0, 51));
        Check.refused("tolerance(1, 0, -1)", RANGE, Scene::counted, y -> y.tolerance(1, 0, -1));
        Check.refused("closed line, 51", RANGE, Scene::lineClosed, y -> y.tolerance(1, 0, 51));
        Check.refused("closed line", NOW, Scene::lineClosed, y -> y.tolerance(1, 0, 5));
    }

    private static void wanted() {
        ReceiveSteps x = Scene.arrived();
        Check.due("open at first", x.told(1, 0, 4), 0);
        x.wanted(1, 0, 5);
        Check.due("open of five", x.told(1, 0, 4), 5);
        Check.due("open of the other line", x.told(1, 1, 4), 0);
        x.sample(1, 0, true);
        x.sample(1, 0, true);
        x.wanted(1, 0, 3);
        Check.due("open of three, two told", x.told(1, 0, 4), 1);
        x.wanted(1, 0, 0);
        Check.due("open of none, two told", x.told(1, 0, 4), 0);
        x.wanted(1, 0, 4);
        Check.due("open of four, two told", x.told(1, 0, 4), 2);
        ReceiveSteps early = Scene.halfTold();
        early.wanted(1, 0, 1);
        Check.due("wanted before it came", early.told(1, 0, 4), 1);
    }

    private static void wantedRefused() {
        Check.refused("wanted(2, 0, 6)", NONE, Scene::counted, y -> y.wanted(2, 0, 6));
        Check.refused("wanted(1, 2, 6)", NONE, Scene::counted, y -> y.wanted(1, 2, 6));
        Check.refused("wanted(1, 0, 6)", RANGE, Scene::counted, y -> y.wanted(1, 0, 6));
        Check.refused("wanted(1, 0, -1)", RANGE, Scene::counted, y -> y.wanted(1, 0, -1));
        Check.refused("closed line, 6", RANGE, Scene::lineClosed, y -> y.wanted(1, 0, 6));
        Check.refused("closed line", NOW, Scene::lineClosed, y -> y.wanted(1, 0, 1));
    }

    private static void units() {
        ReceiveSteps x = Scene.arrived();
        Check.due("one piece", x.count(1, 0, 1, 0, 0), 1);
        Check.due("thirty pieces", x.count(1, 1, 30, 99, 7), 1);
        Check.due("101 pieces", x.count(1, 0, 101, 99, 7), 3);
        int[][] want = {{1, 0, 0}, {30, 99, 1}, {50, 99, 0}, {50, 99, 0}, {1, 99, 0}};
        for (int u = 1; u <= 5; u++) {
            Check.due("pieces of " + u, x.unit(u, 3), want[u - 1][0]);
            Check.due("lot of " + u, x.unit(u, 4), want[u - 1][1]);
            Check.due("line of " + u, x.unit(u, 2), want[u - 1][2]);
            Check.due("announcement of " + u, x.unit(u, 1), 1);
            Check.due("state of " + u, x.unit(u, 0), 0);
            Check.due("last day of " + u, x.unit(u, 5), -1);
            Check.due("damage of " + u, x.unit(u, 6), 0);
            Check.due("label of " + u, x.unit(u, 7), 0);
        }
        Check.due("units", x.count(1), 5);
        Check.due("counted", x.told(1, 0, 2), 102);
        Check.due("exactly what it takes", x.count(1, 0, 18, 1, 1), 1);
        Check.due("counted in all", x.told(1, 0, 2), 120);
        ReceiveSteps y = Scene.full();
        Check.due("400 pieces", y.count(1, 0, 400, 1, 1), 8);
        Check.due("50 pieces", y.count(2, 0, 50, 1, 1), 1);
        Check.due("51 pieces", y.count(3, 0, 51, 1, 1), 2);
        Check.due("the last unit", y.unit(11, 3), 1);
    }

    private static void countRefused() {
        Check.refused("announcement 2", NONE, Scene::arrived, y -> y.count(2, 0, 0, 0, 0));
        Check.refused("line 2", NONE, Scene::arrived, y -> y.count(1, 2, 0, 0, 0));
        Check.refused("a line that is not told yet", NONE, Scene::halfTold, y -> y.count(1, 1, 1, 0, 0));
        Check.refused("0 pieces", RANGE, Scene::arrived, y -> y.count(1, 0, 0, 0, 0));
        Check.refused("401 pieces", RANGE, Scene::arrived, y -> y.count(1, 0, 401, 0, 0));
        Check.refused("the most pieces", RANGE, Scene::arrived, y -> y.count(1, 0, Integer.MAX_VALUE, 0, 0));
        Check.refused("lot -1", RANGE, Scene::arrived, y -> y.count(1, 0, 1, -1, 0));
        Check.refused("lot 100", RANGE, Scene::arrived, y -> y.count(1, 0, 1, 100, 0));
        Check.refused("person -1", RANGE, Scene::arrived, y -> y.count(1, 0, 1, 0, -1));
        Check.refused("person 8", RANGE, Scene::arrived, y -> y.count(1, 0, 1, 0, 8));
        Check.refused("person 8, not ARRIVED", RANGE, Scene::told, y -> y.count(1, 0, 1, 0, 8));
    }

    private static void countBreaks() {
        Check.unchanged("ANNOUNCED", -1, Scene::told, y -> y.count(1, 0, 1, 0, 0));
        Check.unchanged("half told", -1, Scene::halfTold, y -> y.count(1, 0, 1, 0, 0));
        Check.unchanged("WAITING", -1, Scene::waiting, y -> y.count(1, 0, 1, 0, 0));
        Check.unchanged("CLOSED", -1, Scene::closed, y -> y.count(1, 0, 1, 0, 0));
        Check.unchanged("closed line", -2, Scene::lineClosed, y -> y.count(1, 0, 1, 0, 0));
        Check.unchanged("counted already", -3, Scene::counted, y -> y.count(1, 0, 1, 0, 3));
        Check.unchanged("too many", -4, Scene::counted, y -> y.count(1, 0, 61, 0, 2));
        Check.due("the other line, same person", Scene.counted().count(1, 1, 30, 0, 3), 1);
        Check.due("exactly all", Scene.counted().count(1, 0, 60, 0, 2), 2);
        ReceiveSteps x = Scene.counted();
        x.tolerance(1, 0, 10);
        Check.due("above the tolerance", x.count(1, 0, 73, 0, 2), -4);
        Check.due("with the tolerance", x.count(1, 0, 72, 0, 2), 2);
        x.tolerance(1, 0, 0);
        Check.due("more than it takes now", x.count(1, 0, 1, 0, 1), -4);
    }

    private static void orderOfBreaks() {
        Check.due("-2 before -3 and -4", Scene.lineClosed().count(1, 0, 400, 0, 3), -2);
        Check.due("-3 before -4", Scene.counted().count(1, 0, 400, 0, 3), -3);
        Check.due("-1 before -2, -3 and -4", Scene.closed().count(1, 0, 400, 0, 3), -1);
    }

    /** Eighteen units: 400 pieces in eight, 151 in four, and six of one piece. */
    private static void countLine(ReceiveSteps x, int announce, int line) {
        x.count(announce, line, 400, 1, 0);
        x.count(announce, line, 151, 1, 1);
        for (int person = 2; person < 8; person++) {
            x.count(announce, line, 1, 1, person);
        }
    }

    /** 119 of the 120 units are made: 403 pieces of line 2 of announcement 2 are counted, none of its line 3. */
    private static ReceiveSteps almostFull() {
        ReceiveSteps x = new ReceiveSteps();
        for (int a = 1; a <= 2; a++) {
            x.announce(a, 4);
            for (int l = 0; l < 4; l++) {
                x.line(a, 0, 400);
                x.tolerance(a, l, 50);
            }
            x.arrive(a, a, true);
        }
        for (int l = 0; l < 6; l++) {
            countLine(x, 1 + l / 4, l % 4);
        }
        x.count(2, 2, 400, 1, 0);
        for (int person = 1; person < 4; person++) {
            x.count(2, 2, 1, 1, person);
        }
        return x;
    }

    private static void noRoom() {
        ReceiveSteps x = almostFull();
        Check.due("almost full", x.count(1), 119);
        noRoomFor(x, 2, 51, 7);
        Check.due("none is made then", x.count(1), 119);
        Check.due("nothing is counted then", x.told(2, 2, 2), 403);
        Check.due("-4 before no room", x.count(2, 2, 198, 0, 7), -4);
        Check.due("-3 before no room", x.count(2, 2, 51, 0, 0), -3);
        Check.due("the last unit, same person", x.count(2, 2, 50, 0, 7), 1);
        Check.due("all units", x.count(1), 120);
        Check.due("the last one's pieces", x.unit(120, 3), 50);
        noRoomFor(x, 3, 1, 0);
        noRoomFor(x, 3, 400, 0);
        Check.due("units stay", x.count(1), 120);
        Check.due("the other line", x.told(2, 3, 2), 0);
    }

    private static void noRoomFor(ReceiveSteps x, int line, int n, int person) {
        Class<?> got = null;
        try {
            x.count(2, line, n, 0, person);
        } catch (RuntimeException e) {
            got = e.getClass();
        }
        if (got != ROOM) {
            Check.tell("no room for " + n + " pieces of line " + line + ": threw " + got);
        }
    }
}
