import java.util.NoSuchElementException;

/** Promises 1 to 6: a new object, announce, line, arrive, accept, right. */
public final class AnnouncingTest {
    private static final Class<?> NONE = NoSuchElementException.class;
    private static final Class<?> RANGE = IllegalArgumentException.class;
    private static final Class<?> NOW = IllegalStateException.class;
    private static final Class<?> ROOM = UnsupportedOperationException.class;

    public static void main(String[] args) {
        newObject();
        announce();
        line();
        lineRefused();
        arrive();
        arriveRefused();
        doors();
        accept();
        right();
        Check.end();
    }

    private static void newObject() {
        ReceiveSteps x = new ReceiveSteps();
        for (int what = 0; what < 5; what++) {
            Check.due("new: count(" + what + ")", x.count(what), 0);
        }
        Check.refused("new: state(1, 0)", NONE, ReceiveSteps::new, y -> y.state(1, 0));
        Check.refused("new: unit(1, 0)", NONE, ReceiveSteps::new, y -> y.unit(1, 0));
        Check.refused("new: differ(0, 0)", NONE, ReceiveSteps::new, y -> y.differ(0, 0));
        for (int p = 0; p < 8; p++) {
            int person = p;
            Check.refused("new: accept by " + p, NOW, () -> {
                ReceiveSteps z = Scene.told();
                z.arrive(1, 0, false);
                return z;
            }, y -> y.accept(1, person));
        }
    }

    private static void announce() {
        ReceiveSteps x = new ReceiveSteps();
        Check.due("announce(0, 1)", x.announce(0, 1), 1);
        Check.due("announce(7, 4)", x.announce(7, 4), 2);
        Check.due("state(2, 0)", x.state(2, 0), 0);
        Check.due("state(2, 1)", x.state(2, 1), 7);
        Check.due("state(2, 2)", x.state(2, 2), 0);
        Check.due("state(2, 3)", x.state(2, 3), -1);
        Check.due("count(0)", x.count(0), 2);
        int[][] outside = {{-1, 1}, {8, 1}, {0, 0}, {0, 5}, {0, -1}, {Integer.MIN_VALUE, 1}, {0, Integer.MAX_VALUE}};
        for (int[] bad : outside) {
            Check.refused("announce(" + bad[0] + ", " + bad[1] + ")", RANGE, Scene::told, y -> y.announce(bad[0], bad[1]));
        }
        ReceiveSteps full = new ReceiveSteps();
        for (int a = 1; a <= 16; a++) {
            Check.due("announcement " + a, full.announce(a % 8, 1), a);
        }
        Check.refused("the 17th", ROOM, Scene::full, y -> y.announce(0, 1));
        Check.refused("the 17th of owner 8", RANGE, Scene::full, y -> y.announce(8, 1));
    }

    private static void line() {
        ReceiveSteps x = new ReceiveSteps();
        x.announce(2, 4);
        Check.due("line(1, 0, 0)", x.line(1, 0, 0), 0);
        Check.due("line(1, 9, 400)", x.line(1, 9, 400), 1);
        Check.due("line(1, 3, 7)", x.line(1, 3, 7), 2);
        Check.due("state(1, 2)", x.state(1, 2), 3);
        Check.due("line(1, 3, 8)", x.line(1, 3, 8), 3);
        Check.due("told(1, 1, 0)", x.told(1, 1, 0), 9);
        Check.due("told(1, 1, 1)", x.told(1, 1, 1), 400);
        Check.due("told(1, 3, 1)", x.told(1, 3, 1), 8);
        Check.due("told(1, 3, 2)", x.told(1, 3, 2), 0);
    }

    private static void lineRefused() {
        Check.refused("line(0, 0, 0)", NONE, Scene::halfTold, y -> y.line(0, 0, 0));
        Check.refused("line(2, 10, 0)", NONE, Scene::halfTold, y -> y.line(2, 10, 0));
        Check.refused("line(-1, 0, 0)", NONE, Scene::halfTold, y -> y.line(-1, 0, 0));
        Check.refused("line(17, 0, 0)", NONE, Scene::full, y -> y.line(17, 0, 0));
        Check.refused("line(1, -1, 0)", RANGE, Scene::halfTold, y -> y.line(1, -1, 0));
        Check.refused("line(1, 10, 0)", RANGE, Scene::halfTold, y -> y.line(1, 10, 0));
        Check.refused("line(1, 0, -1)", RANGE, Scene::halfTold, y -> y.line(1, 0, -1));
        Check.refused("line(1, 0, 401)", RANGE, Scene::halfTold, y -> y.line(1, 0, 401));
        Check.refused("it has all", NOW, Scene::told, y -> y.line(1, 0, 0));
        Check.refused("it has all, good 10", RANGE, Scene::told, y -> y.line(1, 10, 0));
        Check.refused("it is CLOSED", NOW, Scene::closed, y -> y.line(1, 0, 0));
    }

    private static void arrive() {
        ReceiveSteps x = Scene.told();
        Check.due("arrive(1, 3, true)", x.arrive(1, 3, true), 1);
        Check.due("state(1, 0)", x.state(1, 0), 1);
        Check.due("state(1, 3)", x.state(1, 3), 3);
        ReceiveSteps y = Scene.told();
        Check.due("arrive(1, 0, false)", y.arrive(1, 0, false), 2);
        Check.due("state(1, 0)", y.state(1, 0), 2);
        Check.due("state(1, 3)", y.state(1, 3), 0);
        Check.due("closed: state(1, 3)", Scene.closed().state(1, 3), 1);
    }

    private static void arriveRefused() {
        Check.refused("arrive(2, 4, true)", NONE, Scene::told, y -> y.arrive(2, 4, true));
        Check.refused("arrive(0, 0, true)", NONE, Scene::told, y -> y.arrive(0, 0, true));
        Check.refused("arrive(1, 4, true)", RANGE, Scene::told, y -> y.arrive(1, 4, true));
        Check.refused("arrive(1, -1, true)", RANGE, Scene::told, y -> y.arrive(1, -1, true));
        Check.refused("half told, door 4", RANGE, Scene::halfTold, y -> y.arrive(1, 4, true));
        Check.refused("half told", NOW, Scene::halfTold, y -> y.arrive(1, 0, true));
        Check.refused("WAITING", NOW, Scene::waiting, y -> y.arrive(1, 0, true));
        Check.refused("ARRIVED", NOW, Scene::arrived, y -> y.arrive(1, 0, true));
        Check.refused("CLOSED", NOW, Scene::closed, y -> y.arrive(1, 0, true));
    }

    private static ReceiveSteps withAnother(ReceiveSteps x) {
        x.announce(0, 1);
        x.line(2, 0, 0);
        return x;
    }

    private static void doors() {
        Check.refused("door of one WAITING", NOW, () -> withAnother(Scene.waiting()), y -> y.arrive(2, 1, true));
        Check.refused("door of one ARRIVED", NOW, () -> withAnother(Scene.arrived()), y -> y.arrive(2, 1, true));
        Check.refused("door of one with closed lines", NOW, () -> withAnother(Scene.lineClosed()), y -> y.arrive(2, 1, true));
        Check.due("another door", withAnother(Scene.arrived()).arrive(2, 0, true), 1);
        Check.due("door of one CLOSED", withAnother(Scene.closed()).arrive(2, 1, false), 2);
        ReceiveSteps x = Scene.full();
        Check.due("the fourth's door", x.state(4, 3), 3);
        Check.refused("all doors taken", NOW, Scene::full, y -> y.arrive(5, 3, true));
    }

    private static void accept() {
        ReceiveSteps x = Scene.waiting();
        x.accept(1, 2);
        Check.due("accepted: state(1, 0)", x.state(1, 0), 1);
        Check.due("accepted: state(1, 3)", x.state(1, 3), 1);
        Check.refused("accept(2, 8)", NONE, Scene::waiting, y -> y.accept(2, 8));
        Check.refused("accept(0, 2)", NONE, Scene::waiting, y -> y.accept(0, 2));
        Check.refused("accept(1, 8)", RANGE, Scene::waiting, y -> y.accept(1, 8));
        Check.refused("accept(1, -1)", RANGE, Scene::waiting, y -> y.accept(1, -1));
        Check.refused("not WAITING, person 8", RANGE, Scene::told, y -> y.accept(1, 8));
        Check.refused("no right", NOW, Scene::waiting, y -> y.accept(1, 3));
        Check.refused("ARRIVED", NOW, Scene::arrived, y -> y.accept(1, 2));
        Check.refused("CLOSED", NOW, Scene::closed, y -> y.accept(1, 2));
        Check.refused("ANNOUNCED", NOW, () -> {
            ReceiveSteps z = Scene.told();
            z.right(2, true);
            return z;
        }, y -> y.accept(1, 2));
    }

    private static void right() {
        Check.refused("right(8, true)", RANGE, Scene::waiting, y -> y.right(8, true));
        Check.refused("right(-1, false)", RANGE, Scene::waiting, y -> y.right(-1, false));
        Check.refused("right(34, false)", RANGE, Scene::waiting, y -> y.right(34, false));
        Check.refused("the right is taken back", NOW, () -> {
            ReceiveSteps z = Scene.waiting();
            z.right(2, false);
            return z;
        }, y -> y.accept(1, 2));
        for (int p = 0; p < 8; p++) {
            ReceiveSteps x = Scene.told();
            x.arrive(1, 0, false);
            x.right(p, false);
            x.right(p, true);
            x.right(p, true);
            x.right((p + 1) % 8, false);
            x.accept(1, p);
            Check.due("accepted by " + p, x.state(1, 0), 1);
        }
    }
}
