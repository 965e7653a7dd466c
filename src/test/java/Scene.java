import java.util.function.Consumer;
import java.util.function.Supplier;

/** Objects at the steps of one receiving: announcement 1 of owner 3 with line 0 (120 pieces) and line 1 (30). */
final class Scene {
    private Scene() {
    }

    /** The same scene with some steps more. */
    static Supplier<ReceiveSteps> after(Supplier<ReceiveSteps> scene, Consumer<ReceiveSteps> steps) {
        return () -> {
            ReceiveSteps x = scene.get();
            steps.accept(x);
            return x;
        };
    }

    /** Line 1 is still to be told. */
    static ReceiveSteps halfTold() {
        ReceiveSteps x = new ReceiveSteps();
        x.announce(3, 2);
        x.line(1, 4, 120);
        return x;
    }

    static ReceiveSteps told() {
        ReceiveSteps x = halfTold();
        x.line(1, 5, 30);
        return x;
    }

    /** At door 1, and only person 2 may accept it. */
    static ReceiveSteps waiting() {
        ReceiveSteps x = told();
        x.arrive(1, 1, false);
        x.right(2, true);
        return x;
    }

    static ReceiveSteps arrived() {
        ReceiveSteps x = waiting();
        x.accept(1, 2);
        return x;
    }

    /** Person 3 counted line 0 into units 1 (50 pieces) and 2 (10 pieces). */
    static ReceiveSteps counted() {
        ReceiveSteps x = arrived();
        x.count(1, 0, 60, 7, 3);
        return x;
    }

    /** On day 50; unit 1 waits. */
    static ReceiveSteps late() {
        ReceiveSteps x = counted();
        x.day(50);
        x.date(1, 49);
        return x;
    }

    /** Unit 2 is damaged. */
    static ReceiveSteps broken() {
        ReceiveSteps x = counted();
        x.damaged(2, 4);
        return x;
    }

    /** Line 0 is closed with a unit that has a label and one that is damaged. */
    static ReceiveSteps lineClosed() {
        ReceiveSteps x = broken();
        x.label(1);
        x.close(1, 0);
        return x;
    }

    static ReceiveSteps closed() {
        ReceiveSteps x = lineClosed();
        x.close(1, 1);
        x.closeAll(1);
        return x;
    }

    /** Sixteen announcements of one line each; the first four stand at the doors. */
    static ReceiveSteps full() {
        ReceiveSteps x = new ReceiveSteps();
        for (int a = 1; a <= 16; a++) {
            x.announce(a % 8, 1);
            x.line(a, 1, 400);
        }
        for (int a = 1; a <= 4; a++) {
            x.arrive(a, a - 1, true);
        }
        return x;
    }

    /** One announcement of owner 0, all lines of which are told: so many pieces each. */
    static ReceiveSteps lines(int... pieces) {
        ReceiveSteps x = new ReceiveSteps();
        x.announce(0, pieces.length);
        for (int n : pieces) {
            x.line(1, 0, n);
        }
        return x;
    }

    /** The same at door 0. */
    static ReceiveSteps linesArrived(int... pieces) {
        ReceiveSteps x = lines(pieces);
        x.arrive(1, 0, true);
        return x;
    }

    /** One line of 400 pieces, counted by person 0 into eight units. */
    static ReceiveSteps eightUnits() {
        ReceiveSteps x = linesArrived(400);
        x.count(1, 0, 400, 5, 0);
        return x;
    }

    /** Everybody may accept. */
    static void allMay(ReceiveSteps x) {
        for (int person = 0; person < 8; person++) {
            x.right(person, true);
        }
    }

    /**
     * So many of the 120 units are left, 0 to 8. At the doors 0 to 3 stand announcements 1 to 4 of four lines of 400
     * pieces; person 0 counted them all, but for the last pieces of line 2 of 4 and its whole line 3.
     */
    static ReceiveSteps roomFor(int units) {
        ReceiveSteps x = new ReceiveSteps();
        for (int a = 1; a <= 4; a++) {
            x.announce(a, 4);
            for (int l = 0; l < 4; l++) {
                x.line(a, 0, 400);
            }
            x.arrive(a, a - 1, true);
        }
        for (int k = 0; k < 14; k++) {
            x.count(1 + k / 4, k % 4, 400, 1, 0);
        }
        if (units < 8) {
            x.count(4, 2, 400 - 50 * units, 1, 0);
        }
        return x;
    }
}
