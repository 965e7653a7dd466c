/** Objects at the steps of one receiving: announcement 1 of owner 3 with line 0 (120 pieces) and line 1 (30). */
final class Scene {
    private Scene() {
    }

    /** Line 1 is still to be told. */
    static ReceiveSteps halfTold() {
        ReceiveSteps x = new ReceiveSteps();
        x.announce(3, 2);
        x.line(1, 4, 120);
        return x;
    }

    static ReceiveSteps told() {
        ReceiveSteps x = halfTold();
        x.line(1, 5, 30);
        return x;
    }

    /** At door 1, and only person 2 may accept it. */
    static ReceiveSteps waiting() {
        ReceiveSteps x = told();
        x.arrive(1, 1, false);
        x.right(2, true);
        return x;
    }

    static ReceiveSteps arrived() {
        ReceiveSteps x = waiting();
        x.accept(1, 2);
        return x;
    }

    /** Person 3 counted line 0 into units 1 (50 pieces) and 2 (10 pieces). */
    static ReceiveSteps counted() {
        ReceiveSteps x = arrived();
        x.count(1, 0, 60, 7, 3);
        return x;
    }

    /** On day 50; unit 1 waits. */
    static ReceiveSteps late() {
        ReceiveSteps x = counted();
        x.day(50);
        x.date(1, 49);
        return x;
    }

    /** Unit 2 is damaged. */
    static ReceiveSteps broken() {
        ReceiveSteps x = counted();
        x.damaged(2, 4);
        return x;
    }

    /** Line 0 is closed with a unit that has a label and one that is damaged. */
    static ReceiveSteps lineClosed() {
        ReceiveSteps x = broken();
        x.label(1);
        x.close(1, 0);
        return x;
    }

    static ReceiveSteps closed() {
        ReceiveSteps x = lineClosed();
        x.close(1, 1);
        x.closeAll(1);
        return x;
    }

    /** Sixteen announcements of one line each; the first four stand at the doors. */
    static ReceiveSteps full() {
        ReceiveSteps x = new ReceiveSteps();
        for (int a = 1; a <= 16; a++) {
            x.announce(a % 8, 1);
            x.line(a, 1, 400);
        }
        for (int a = 1; a <= 4; a++) {
            x.arrive(a, a - 1, true);
        }
        return x;
    }
}
