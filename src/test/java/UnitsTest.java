import java.util.NoSuchElementException;

/** Promises 10 to 15: damaged, sample, date, take, label, again. */
public final class UnitsTest {
    private static final Class<?> NONE = NoSuchElementException.class;
    private static final Class<?> RANGE = IllegalArgumentException.class;
    private static final Class<?> NOW = IllegalStateException.class;

    public static void main(String[] args) {
        damaged();
        damagedRefused();
        sample();
        quarantine();
        sampleRefused();
        date();
        dateInQuarantine();
        dateRefused();
        take();
        takeRefused();
        label();
        checkDigits();
        again();
        Check.end();
    }

    private static void damaged() {
        ReceiveSteps x = Scene.counted();
        x.count(1, 1, 30, 0, 3);
        Check.due("damaged(2, 9)", x.damaged(2, 9), 1);
        Check.due("state of 2", x.unit(2, 0), 1);
        Check.due("kind of 2", x.unit(2, 6), 9);
        Check.due("state of 1", x.unit(1, 0), 0);
        Check.due("the other line's first", x.damaged(3, 1), 1);
        Check.due("the second", x.damaged(1, 1), 2);
        Check.due("a waiting one", Scene.late().damaged(1, 5), 1);
        ReceiveSteps late = Scene.late();
        late.damaged(1, 5);
        Check.due("a waiting one is DAMAGED then", late.unit(1, 0), 1);
        Check.due("its last day", late.unit(1, 5), 49);
        late.label(2);
        Check.due("and does not wait", late.close(1, 0), 1);
    }

    private static void damagedRefused() {
        Check.refused("damaged(3, 10)", NONE, Scene::counted, y -> y.damaged(3, 10));
        Check.refused("damaged(0, 1)", NONE, Scene::counted, y -> y.damaged(0, 1));
        Check.refused("damaged(-1, 1)", NONE, Scene::counted, y -> y.damaged(-1, 1));
        Check.refused("damaged(1, 0)", RANGE, Scene::counted, y -> y.damaged(1, 0));
        Check.refused("damaged(1, 10)", RANGE, Scene::counted, y -> y.damaged(1, 10));
        Check.refused("DAMAGED, kind 10", RANGE, Scene::broken, y -> y.damaged(2, 10));
        Check.refused("DAMAGED", NOW, Scene::broken, y -> y.damaged(2, 5));
        Check.refused("closed line", NOW, Scene::lineClosed, y -> y.damaged(1, 5));
    }

    private static void sample() {
        ReceiveSteps x = Scene.arrived();
        x.wanted(1, 0, 3);
        Check.due("first verdict", x.sample(1, 0, true), 2);
        Check.due("none bad", x.told(1, 0, 5), 0);
        Check.due("second verdict", x.sample(1, 0, false), 1);
        Check.due("one bad", x.told(1, 0, 5), 1);
        Check.due("third verdict", x.sample(1, 0, true), 0);
        Check.due("still bad", x.told(1, 0, 5), 1);
        Check.due("the other line", x.told(1, 1, 5), 0);
        Check.due("open", x.told(1, 0, 4), 0);
    }

    private static void quarantine() {
        ReceiveSteps x = Scene.late();
        x.count(1, 1, 30, 0, 3);
        x.count(1, 0, 10, 0, 4);
        x.damaged(2, 4);
        x.wanted(1, 0, 2);
        x.sample(1, 0, true);
        Check.due("after a good one", x.unit(4, 0), 0);
        x.sample(1, 0, false);
        Check.due("one that waits", x.unit(1, 0), 3);
        Check.due("one that is DAMAGED", x.unit(2, 0), 1);
        Check.due("one of another line", x.unit(3, 0), 0);
        Check.due("one that was GOOD", x.unit(4, 0), 2);
        x.count(1, 0, 10, 0, 5);
        Check.due("one that comes later", x.unit(5, 0), 2);
        Check.due("one that is accepted", x.take(1, 2), 2);
        Check.due("its state", x.unit(1, 0), 2);
        Check.due("one that is damaged later", x.damaged(5, 1), 2);
        Check.due("its state", x.unit(5, 0), 1);
    }

    private static ReceiveSteps wantedOf(ReceiveSteps x, int samples) {
        x.wanted(1, 0, samples);
        return x;
    }

    private static void sampleRefused() {
        Check.refused("sample(2, 0)", NONE, Scene::counted, y -> y.sample(2, 0, false));
        Check.refused("sample(1, 2)", NONE, Scene::counted, y -> y.sample(1, 2, false));
        Check.refused("no sample is open", NOW, Scene::counted, y -> y.sample(1, 0, false));
        Check.refused("ANNOUNCED", NOW, () -> wantedOf(Scene.told(), 1), y -> y.sample(1, 0, false));
        Check.refused("WAITING", NOW, () -> wantedOf(Scene.waiting(), 1), y -> y.sample(1, 0, false));
        Check.refused("closed line", NOW, Scene::lineClosed, y -> y.sample(1, 0, false));
        Check.refused("CLOSED", NOW, Scene::closed, y -> y.sample(1, 0, false));
        Check.refused("all are told", NOW, () -> {
            ReceiveSteps x = wantedOf(Scene.counted(), 1);
            x.sample(1, 0, true);
            return x;
        }, y -> y.sample(1, 0, false));
        Check.refused("more are told than wanted", NOW, () -> {
            ReceiveSteps x = wantedOf(Scene.counted(), 2);
            x.sample(1, 0, true);
            x.sample(1, 0, true);
            return wantedOf(x, 1);
        }, y -> y.sample(1, 0, false));
    }

    private static void date() {
        ReceiveSteps x = Scene.counted();
        Check.due("today", x.date(1, 0), 1);
        Check.due("last day", x.unit(1, 5), 0);
        Check.due("last day of all", x.date(2, 10000), 1);
        x.day(50);
        Check.due("it was told before, and does not wait", x.unit(1, 0), 0);
        Check.due("date(1, 49)", x.date(1, 49), 2);
        Check.due("it waits", x.unit(1, 0), 3);
        Check.due("last day", x.unit(1, 5), 49);
        Check.due("date(1, 50) instead", x.date(1, 50), 1);
        Check.due("it does not wait", x.unit(1, 0), 0);
        Check.due("last day", x.unit(1, 5), 50);
        Check.due("date(2, 0)", x.date(2, 0), 2);
        x.day(60);
        Check.due("it goes on waiting", x.unit(2, 0), 3);
        x.take(2, 2);
        Check.due("accepted", x.unit(2, 0), 0);
        Check.due("last day stays", x.unit(2, 5), 0);
        Check.due("told again", x.date(2, 0), 2);
        Check.due("it waits again", x.unit(2, 0), 3);
    }

    private static void dateInQuarantine() {
        ReceiveSteps x = Scene.late();
        x.wanted(1, 0, 1);
        x.sample(1, 0, false);
        Check.due("not late any more", x.date(1, 50), 1);
        Check.due("quarantine", x.unit(1, 0), 2);
        Check.due("from quarantine", x.date(2, 49), 2);
        Check.due("it waits", x.unit(2, 0), 3);
    }

    private static void dateRefused() {
        Check.refused("date(3, 10001)", NONE, Scene::late, y -> y.date(3, 10001));
        Check.refused("date(0, 1)", NONE, Scene::late, y -> y.date(0, 1));
        Check.refused("date(1, 10001)", RANGE, Scene::late, y -> y.date(1, 10001));
        Check.refused("date(1, -1)", RANGE, Scene::late, y -> y.date(1, -1));
        Check.refused("DAMAGED, day -1", RANGE, Scene::broken, y -> y.date(2, -1));
        Check.refused("DAMAGED", NOW, Scene::broken, y -> y.date(2, 5));
        Check.refused("closed line", NOW, Scene::lineClosed, y -> y.date(1, 5));
    }

    private static void take() {
        ReceiveSteps x = Scene.late();
        Check.due("take(1, 2)", x.take(1, 2), 0);
        Check.due("state", x.unit(1, 0), 0);
        ReceiveSteps y = Scene.late();
        y.right(7, true);
        y.right(2, false);
        Check.due("take(1, 7)", y.take(1, 7), 0);
        ReceiveSteps z = Scene.late();
        z.right(0, true);
        Check.due("take(1, 0)", z.take(1, 0), 0);
    }

    private static void takeRefused() {
        Check.refused("take(3, 8)", NONE, Scene::late, y -> y.take(3, 8));
        Check.refused("take(1, 8)", RANGE, Scene::late, y -> y.take(1, 8));
        Check.refused("take(1, -1)", RANGE, Scene::late, y -> y.take(1, -1));
        Check.refused("not waiting, person 8", RANGE, Scene::counted, y -> y.take(1, 8));
        Check.refused("no right", NOW, Scene::late, y -> y.take(1, 3));
        Check.refused("not waiting", NOW, Scene::late, y -> y.take(2, 2));
        Check.refused("DAMAGED", NOW, Scene::broken, y -> y.take(2, 2));
        Check.refused("DAMAGED while it waited", NOW, () -> {
            ReceiveSteps x = Scene.late();
            x.damaged(1, 1);
            return x;
        }, y -> y.take(1, 2));
        Check.refused("accepted already", NOW, () -> {
            ReceiveSteps x = Scene.late();
            x.take(1, 2);
            return x;
        }, y -> y.take(1, 2));
        Check.refused("right taken back", NOW, () -> {
            ReceiveSteps x = Scene.late();
            x.right(2, false);
            return x;
        }, y -> y.take(1, 2));
    }

    private static void label() {
        ReceiveSteps x = Scene.counted();
        Check.due("labels", x.count(2), 0);
        Check.due("label(2)", x.label(2), 3000010);
        Check.due("label(1)", x.label(1), 3000029);
        Check.due("label(2) stays", x.label(2), 3000010);
        Check.due("unit(2, 7)", x.unit(2, 7), 3000010);
        Check.due("labels", x.count(2), 2);
        Check.due("label of a DAMAGED one", Scene.broken().label(2), 3000010);
        Check.due("label of a waiting one", Scene.late().label(1), 3000010);
        Check.due("label when all is CLOSED", Scene.closed().label(2), 3000029);
        Check.refused("label(3)", NONE, Scene::counted, y -> y.label(3));
        Check.refused("label(0)", NONE, Scene::counted, y -> y.label(0));
        Check.refused("label(-1)", NONE, Scene::counted, y -> y.label(-1));
    }

    /** By the words of the document, digit for digit. */
    private static boolean isRight(int label, int owner, int n) {
        String digits = String.format("%07d", label);
        int sum = 0;
        for (int k = 0; k < 7; k++) {
            int digit = digits.charAt(k) - '0';
            sum += k == 0 || k == 2 || k == 4 ? 3 * digit : digit;
        }
        return digits.length() == 7 && sum % 10 == 0
                && digits.startsWith(owner + String.format("%05d", n));
    }

    private static void checkDigits() {
        ReceiveSteps x = new ReceiveSteps();
        int n = 0;
        for (int owner = 0; owner < 8; owner++) {
            x.announce(owner, 1);
            x.line(owner + 1, 0, 400);
        }
        for (int owner = 0; owner < 8; owner++) {
            int a = owner + 1;
            x.tolerance(a, 0, 50);
            x.arrive(a, owner % 4, true);
            x.count(a, 0, 400, 0, 0);
            x.count(a, 0, 200, 0, 1);
            int last = x.count(1);
            while (n < last) {
                n++;
                int label = x.label(n);
                if (!isRight(label, owner, n)) {
                    Check.tell("label " + n + " of owner " + owner + " is " + label);
                }
            }
            x.close(a, 0);
            x.closeAll(a);
        }
        Check.due("labels in all", x.count(2), 96);
    }

    private static void again() {
        ReceiveSteps x = Scene.counted();
        x.label(1);
        Check.due("again(1)", x.again(1), 2);
        Check.due("again(1)", x.again(1), 3);
        x.label(1);
        Check.due("again(1) after label(1)", x.again(1), 5);
        x.label(2);
        Check.due("again(2)", x.again(2), 2);
        Check.due("label stays", x.unit(1, 7), 3000010);
        Check.due("labels", x.count(2), 2);
        Check.due("when all is CLOSED", Scene.closed().again(1), 2);
        Check.refused("again(3)", NONE, Scene::counted, y -> y.again(3));
        Check.refused("again(0)", NONE, Scene::counted, y -> y.again(0));
        Check.refused("it has none", NOW, Scene::counted, y -> y.again(1));
    }
}
