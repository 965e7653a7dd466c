import java.util.NoSuchElementException;

/** Promises 16 to 20: close, closeAll, day, differ, claim. */
public final class ClosingTest {
    private static final Class<?> NONE = NoSuchElementException.class;
    private static final Class<?> RANGE = IllegalArgumentException.class;
    private static final Class<?> NOW = IllegalStateException.class;

    public static void main(String[] args) {
        close();
        whatIsOpen();
        closeRefused();
        closeAll();
        closeAllRefused();
        day();
        differ();
        differEverywhere();
        differRefused();
        claim();
        Check.end();
    }

    private static void close() {
        ReceiveSteps x = Scene.broken();
        x.label(1);
        Check.due("close(1, 0)", x.close(1, 0), 1);
        Check.due("told(1, 0, 3)", x.told(1, 0, 3), 1);
        Check.due("told(1, 1, 3)", x.told(1, 1, 3), 0);
        Check.due("lines closed", x.count(4), 1);
        Check.due("nothing counted: close(1, 1)", x.close(1, 1), 1);
        Check.due("lines closed", x.count(4), 2);
        Check.due("still ARRIVED", x.state(1, 0), 1);
    }

    private static ReceiveSteps openSamples() {
        ReceiveSteps x = Scene.late();
        x.wanted(1, 0, 1);
        return x;
    }

    private static void whatIsOpen() {
        Check.unchanged("samples first", 2, ClosingTest::openSamples, y -> y.close(1, 0));
        Check.unchanged("then a unit that waits", 3, Scene::late, y -> y.close(1, 0));
        Check.unchanged("then a label", 4, Scene::counted, y -> y.close(1, 0));
        ReceiveSteps x = openSamples();
        x.count(1, 1, 30, 0, 0);
        Check.due("the other line", x.close(1, 1), 4);
        x.label(3);
        Check.due("the other line with its label", x.close(1, 1), 1);
        x.sample(1, 0, false);
        Check.due("the sample is told", x.close(1, 0), 3);
        x.label(1);
        x.label(2);
        Check.due("labels do not help", x.close(1, 0), 3);
        x.take(1, 2);
        Check.due("quarantine may be closed", x.close(1, 0), 1);
        ReceiveSteps fewer = openSamples();
        fewer.wanted(1, 0, 0);
        Check.due("no sample is wanted any more", fewer.close(1, 0), 3);
        ReceiveSteps last = Scene.counted();
        last.label(1);
        Check.due("the last one has no label", last.close(1, 0), 4);
        ReceiveSteps first = Scene.counted();
        first.label(2);
        Check.due("the first one has no label", first.close(1, 0), 4);
    }

    private static void closeRefused() {
        Check.refused("close(2, 0)", NONE, Scene::counted, y -> y.close(2, 0));
        Check.refused("close(1, 2)", NONE, Scene::counted, y -> y.close(1, 2));
        Check.refused("close(1, -1)", NONE, Scene::counted, y -> y.close(1, -1));
        Check.refused("a line that is not told yet", NONE, Scene::halfTold, y -> y.close(1, 1));
        Check.refused("ANNOUNCED", NOW, Scene::told, y -> y.close(1, 0));
        Check.refused("WAITING", NOW, Scene::waiting, y -> y.close(1, 0));
        Check.refused("closed line", NOW, Scene::lineClosed, y -> y.close(1, 0));
        Check.refused("CLOSED", NOW, Scene::closed, y -> y.close(1, 0));
    }

    private static void closeAll() {
        Check.unchanged("line 0 is open", -1, Scene::arrived, y -> y.closeAll(1));
        Check.unchanged("line 1 is open", -2, Scene::lineClosed, y -> y.closeAll(1));
        ReceiveSteps x = new ReceiveSteps();
        x.announce(0, 4);
        for (int l = 0; l < 4; l++) {
            x.line(1, 0, 0);
        }
        x.arrive(1, 0, true);
        x.close(1, 3);
        x.close(1, 0);
        Check.due("line 1 is the first", x.closeAll(1), -2);
        x.close(1, 1);
        Check.due("line 2 is the first", x.closeAll(1), -3);
        x.close(1, 2);
        Check.due("state before", x.state(1, 0), 1);
        Check.due("closeAll(1)", x.closeAll(1), 1);
        Check.due("state then", x.state(1, 0), 3);
        ReceiveSteps y = new ReceiveSteps();
        y.announce(0, 4);
        for (int l = 0; l < 4; l++) {
            y.line(1, 0, 0);
        }
        y.arrive(1, 0, true);
        for (int l = 0; l < 3; l++) {
            y.close(1, l);
        }
        Check.due("line 3 is the first", y.closeAll(1), -4);
    }

    private static void closeAllRefused() {
        Check.refused("closeAll(2)", NONE, Scene::arrived, y -> y.closeAll(2));
        Check.refused("closeAll(0)", NONE, Scene::arrived, y -> y.closeAll(0));
        Check.refused("ANNOUNCED", NOW, Scene::told, y -> y.closeAll(1));
        Check.refused("no line told", NOW, () -> {
            ReceiveSteps x = new ReceiveSteps();
            x.announce(0, 1);
            return x;
        }, y -> y.closeAll(1));
        Check.refused("WAITING", NOW, Scene::waiting, y -> y.closeAll(1));
        Check.refused("CLOSED", NOW, Scene::closed, y -> y.closeAll(1));
    }

    private static void day() {
        ReceiveSteps x = new ReceiveSteps();
        Check.due("today at first", x.count(3), 0);
        x.day(0);
        x.day(7);
        Check.due("today", x.count(3), 7);
        x.day(7);
        Check.due("the same day", x.count(3), 7);
        x.day(10000);
        Check.due("the last day", x.count(3), 10000);
        Check.refused("day(49)", NOW, Scene::late, y -> y.day(49));
        Check.refused("day(-1)", RANGE, Scene::late, y -> y.day(-1));
        Check.refused("day(10001)", RANGE, Scene::late, y -> y.day(10001));
    }

    /** Two announcements: lines closed in the order 2.0 (5 too many), 1.1 (as announced), 1.0 (120 missing). */
    private static ReceiveSteps differing() {
        ReceiveSteps x = Scene.arrived();
        x.announce(0, 1);
        x.line(2, 0, 10);
        x.tolerance(2, 0, 50);
        x.arrive(2, 0, true);
        x.count(2, 0, 15, 0, 0);
        x.label(1);
        x.count(1, 1, 30, 0, 0);
        x.label(2);
        x.close(2, 0);
        x.close(1, 1);
        x.close(1, 0);
        return x;
    }

    private static void differ() {
        ReceiveSteps x = differing();
        int[][] want = {{2, 0, 5}, {1, 0, -120}};
        for (int i = 0; i < 2; i++) {
            for (int what = 0; what < 3; what++) {
                Check.due("differ(" + i + ", " + what + ")", x.differ(i, what), want[i][what]);
            }
        }
        ReceiveSteps y = Scene.arrived();
        y.close(1, 1);
        Check.due("its line", y.differ(0, 1), 1);
    }

    /** All the lines that there can be, each with something missing, line 3 closed first. */
    private static void differEverywhere() {
        ReceiveSteps x = new ReceiveSteps();
        for (int a = 1; a <= 16; a++) {
            x.announce(0, 4);
            for (int l = 0; l < 4; l++) {
                x.line(a, 0, 4 * a + l);
            }
            x.arrive(a, 0, true);
            for (int l = 3; l >= 0; l--) {
                x.close(a, l);
            }
            x.closeAll(a);
        }
        Check.due("lines closed", x.count(4), 64);
        for (int i = 0; i < 64; i++) {
            int a = i / 4 + 1;
            int l = 3 - i % 4;
            Check.due("all: differ(" + i + ", 0)", x.differ(i, 0), a);
            Check.due("all: differ(" + i + ", 1)", x.differ(i, 1), l);
            Check.due("all: differ(" + i + ", 2)", x.differ(i, 2), -4 * a - l);
        }
    }

    private static void differRefused() {
        Check.refused("differ(2, 0)", NONE, ClosingTest::differing, y -> y.differ(2, 0));
        Check.refused("differ(2, 3)", NONE, ClosingTest::differing, y -> y.differ(2, 3));
        Check.refused("differ(-1, 3)", NONE, ClosingTest::differing, y -> y.differ(-1, 3));
        Check.refused("differ(64, 0)", NONE, ClosingTest::differing, y -> y.differ(64, 0));
        Check.refused("differ(1, 3)", RANGE, ClosingTest::differing, y -> y.differ(1, 3));
        Check.refused("differ(1, -1)", RANGE, ClosingTest::differing, y -> y.differ(1, -1));
        Check.refused("a line that is not closed", NONE, Scene::counted, y -> y.differ(0, 0));
    }

    private static void claim() {
        ReceiveSteps x = Scene.counted();
        x.announce(0, 1);
        x.line(2, 0, 100);
        x.arrive(2, 0, true);
        x.count(2, 0, 100, 0, 0);
        x.count(1, 1, 30, 0, 0);
        Check.due("none", x.claim(1, 0), -1);
        x.damaged(5, 1);
        x.damaged(3, 1);
        x.damaged(2, 1);
        Check.due("claim(1, 0)", x.claim(1, 0), 2);
        Check.due("claim(1, 1)", x.claim(1, 1), 5);
        Check.due("claim(1, 2)", x.claim(1, 2), -1);
        Check.due("claim(1, most)", x.claim(1, Integer.MAX_VALUE), -1);
        Check.due("claim(2, 0)", x.claim(2, 0), 3);
        Check.due("claim(2, 1)", x.claim(2, 1), -1);
        x.damaged(1, 1);
        Check.due("unit 1 comes first", x.claim(1, 0), 1);
        Check.due("unit 2 is the next", x.claim(1, 1), 2);
        Check.due("of one that is CLOSED", Scene.closed().claim(1, 0), 2);
        Check.refused("claim(2, -1)", NONE, Scene::broken, y -> y.claim(2, -1));
        Check.refused("claim(0, 0)", NONE, Scene::broken, y -> y.claim(0, 0));
        Check.refused("claim(1, -1)", RANGE, Scene::broken, y -> y.claim(1, -1));
    }
}
