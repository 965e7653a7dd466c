import java.util.function.Supplier;

/** The edges that promises 10 to 15 name, each sentence by a test of its own. */
public final class EdgesOfUnitsTest {
    public static void main(String[] args) {
        damages();
        samples();
        dates();
        labels();
        Check.end();
    }

    private static void damages() {
        Check.sentence("A unit is DAMAGED (kind 1 .. 9)", EdgesOfUnitsTest::kinds);
        Check.sentence("how many of its line are", EdgesOfUnitsTest::howManyAre);
        Check.sentence("how many of its line are. IllegalStateException: it is so", EdgesOfUnitsTest::damagedAlready);
        Check.sentence("IllegalStateException: it is so, or its line is closed.", EdgesOfUnitsTest::damagedWhenClosed);
    }

    private static void samples() {
        Check.sentence("The verdict of a line's next sample: how many are open then.", EdgesOfUnitsTest::openThen);
        Check.sentence("IllegalStateException: its announcement is not ARRIVED", EdgesOfUnitsTest::sampleBeforeArrival);
        Check.sentence("its announcement is not ARRIVED, the line is closed", EdgesOfUnitsTest::sampleOfClosed);
        Check.sentence("or no sample is open.", EdgesOfUnitsTest::noSampleOpen);
    }

    private static void dates() {
        Check.sentence("A unit's last day is told", EdgesOfUnitsTest::lastDay);
        Check.sentence("(it counts instead of an earlier one)", EdgesOfUnitsTest::insteadOfEarlier);
        Check.sentence("1, or 2 if it waits then.", EdgesOfUnitsTest::waitsThen);
        Check.sentence("IllegalStateException: it is DAMAGED", EdgesOfUnitsTest::dateOfDamaged);
        Check.sentence("IllegalStateException: it is DAMAGED, or its line is closed.", EdgesOfUnitsTest::dateOfClosed);
        Check.sentence("A person accepts a unit that is WAITING: its state then.", EdgesOfUnitsTest::stateThen);
        Check.sentence("its state then. IllegalStateException: it is not", EdgesOfUnitsTest::takeNotWaiting);
        Check.sentence("its state then. IllegalStateException: it is not, or the person has not the right.",
                EdgesOfUnitsTest::takeWithoutRight);
    }

    private static void labels() {
        Check.sentence("A unit's label, made if it has none.", EdgesOfUnitsTest::labelMade);
        Check.sentence("how often it was printed then, label() and this.", EdgesOfUnitsTest::howOften);
        Check.sentence("IllegalStateException: it has none.", EdgesOfUnitsTest::noLabel);
    }

    private static void badSample(ReceiveSteps x) {
        x.wanted(1, 0, 1);
        x.sample(1, 0, false);
    }

    private static void kinds() {
        Edge.range(1, 9, 1, Scene::counted, "damaged", 1, 1);
        for (int kind = 1; kind <= 9; kind++) {
            ReceiveSteps x = Scene.counted();
            x.damaged(2, kind);
            Check.due("kind", x.unit(2, 6), kind);
            Check.due("kind of the other", x.unit(1, 6), 0);
        }
    }

    private static void howManyAre() {
        ReceiveSteps x = Scene.eightUnits();
        for (int k = 1; k <= 8; k++) {
            Check.due("damaged then", x.damaged(9 - k, 1), k);
        }
        Supplier<ReceiveSteps> otherLine = Scene.after(Scene::broken, y -> y.count(1, 1, 30, 0, 0));
        Edge.answered(1, otherLine, "damaged", 3, 1);
        Edge.answered(2, otherLine, "damaged", 1, 1);
    }

    private static void damagedAlready() {
        Edge.refused(Edge.NOW, Scene::broken, "damaged", 2, 4);
        Edge.refused(Edge.NOW, Scene::broken, "damaged", 2, 5);
        Edge.answered(2, Scene::broken, "damaged", 1, 5);
        Edge.answered(1, Scene::late, "damaged", 1, 5);
        Edge.answered(1, Scene.after(Scene::counted, EdgesOfUnitsTest::badSample), "damaged", 1, 5);
    }

    private static void damagedWhenClosed() {
        Edge.refused(Edge.NOW, Scene::lineClosed, "damaged", 1, 5);
        Edge.refused(Edge.NOW, Scene::closed, "damaged", 1, 5);
        Edge.refused(Edge.NOW, Scene::lineClosed, "damaged", 2, 5);
        Supplier<ReceiveSteps> otherClosed = Scene.after(Scene::counted, x -> x.close(1, 1));
        Edge.answered(1, otherClosed, "damaged", 1, 5);
    }

    private static void openThen() {
        for (int samples = 1; samples <= 5; samples++) {
            ReceiveSteps x = Scene.arrived();
            x.wanted(1, 0, samples);
            for (int open = samples - 1; open >= 0; open--) {
                Check.due("open of " + samples, x.sample(1, 0, open % 2 == 0), open);
            }
        }
        Edge.answered(0, Scene.after(Scene::arrived, x -> {
            x.wanted(1, 0, 1);
            x.sample(1, 0, true);
        }), "told", 1, 0, 5);
        Edge.answered(1, Scene.after(Scene::arrived, EdgesOfUnitsTest::badSample), "told", 1, 0, 5);
        Edge.answered(0, Scene.after(Scene::arrived, EdgesOfUnitsTest::badSample), "told", 1, 1, 5);
    }

    private static void sampleBeforeArrival() {
        Edge.refused(Edge.NOW, Scene.after(Scene::halfTold, x -> x.wanted(1, 0, 5)), "sample", 1, 0, 0);
        Edge.refused(Edge.NOW, Scene.after(Scene::told, x -> x.wanted(1, 0, 5)), "sample", 1, 0, 0);
        Edge.refused(Edge.NOW, Scene.after(Scene::waiting, x -> x.wanted(1, 0, 5)), "sample", 1, 0, 1);
        Edge.answered(4, Scene.after(Scene::waiting, x -> {
            x.wanted(1, 0, 5);
            x.accept(1, 2);
        }), "sample", 1, 0, 1);
        Edge.refused(Edge.NOW, Scene::closed, "sample", 1, 0, 0);
    }

    private static void sampleOfClosed() {
        Edge.refused(Edge.NOW, Scene::lineClosed, "sample", 1, 0, 0);
        Edge.refused(Edge.NOW, Scene::lineClosed, "sample", 1, 0, 1);
        Edge.answered(0, Scene.after(Scene::lineClosed, x -> x.wanted(1, 1, 1)), "sample", 1, 1, 1);
    }

    private static void noSampleOpen() {
        Edge.refused(Edge.NOW, Scene::arrived, "sample", 1, 0, 0);
        Edge.refused(Edge.NOW, Scene::arrived, "sample", 1, 0, 1);
        Supplier<ReceiveSteps> one = Scene.after(Scene::arrived, x -> x.wanted(1, 0, 1));
        Edge.answered(0, one, "sample", 1, 0, 1);
        Edge.refused(Edge.NOW, one, "sample", 1, 1, 0);
        Edge.refused(Edge.NOW, Scene.after(one, x -> x.sample(1, 0, true)), "sample", 1, 0, 0);
        Edge.refused(Edge.NOW, Scene.after(one, x -> x.wanted(1, 0, 0)), "sample", 1, 0, 0);
    }

    private static void lastDay() {
        Edge.answered(-1, Scene::counted, "unit", 1, 5);
        int[] days = {0, 1, 9999, 10000};
        for (int day : days) {
            ReceiveSteps x = Scene.counted();
            x.date(1, day);
            Check.due("last day", x.unit(1, 5), day);
            Check.due("last day of the other", x.unit(2, 5), -1);
        }
    }

    private static void insteadOfEarlier() {
        Supplier<ReceiveSteps> notLate = Scene.after(Scene::late, x -> x.date(1, 50));
        Edge.answered(1, Scene::late, "date", 1, 50);
        Edge.answered(0, notLate, "unit", 1, 0);
        Edge.answered(50, notLate, "unit", 1, 5);
        Edge.refused(Edge.NOW, notLate, "take", 1, 2);
        Supplier<ReceiveSteps> lateAgain = Scene.after(notLate, x -> x.date(1, 0));
        Edge.answered(2, notLate, "date", 1, 0);
        Edge.answered(3, lateAgain, "unit", 1, 0);
        Edge.answered(0, lateAgain, "unit", 1, 5);
        Supplier<ReceiveSteps> taken = Scene.after(Scene::late, x -> x.take(1, 2));
        Edge.answered(2, taken, "date", 1, 49);
        Edge.answered(3, Scene.after(taken, x -> x.date(1, 49)), "unit", 1, 0);
        Edge.answered(1, taken, "date", 1, 50);
        Supplier<ReceiveSteps> bad = Scene.after(Scene::late, EdgesOfUnitsTest::badSample);
        Edge.answered(1, bad, "date", 1, 50);
        Edge.answered(2, Scene.after(bad, x -> x.date(1, 50)), "unit", 1, 0);
    }

    private static void waitsThen() {
        Edge.answered(2, Scene::late, "date", 2, 49);
        Edge.answered(1, Scene::late, "date", 2, 50);
        Edge.answered(1, Scene::late, "date", 2, 51);
        Edge.answered(2, Scene::late, "date", 2, 0);
        Edge.answered(1, Scene::late, "date", 2, 10000);
        Edge.answered(1, Scene::counted, "date", 1, 0);
        Supplier<ReceiveSteps> dayOne = Scene.after(Scene::counted, x -> x.day(1));
        Edge.answered(2, dayOne, "date", 1, 0);
        Edge.answered(1, dayOne, "date", 1, 1);
        Supplier<ReceiveSteps> lastDay = Scene.after(Scene::counted, x -> x.day(10000));
        Edge.answered(2, lastDay, "date", 1, 9999);
        Edge.answered(1, lastDay, "date", 1, 10000);
    }

    private static void dateOfDamaged() {
        Edge.refused(Edge.NOW, Scene::broken, "date", 2, 0);
        Edge.refused(Edge.NOW, Scene::broken, "date", 2, 10000);
        Edge.answered(1, Scene::broken, "date", 1, 0);
        Edge.refused(Edge.NOW, Scene.after(Scene::late, x -> x.damaged(1, 1)), "date", 1, 50);
        Edge.answered(1, Scene.after(Scene::counted, EdgesOfUnitsTest::badSample), "date", 1, 0);
    }

    private static void dateOfClosed() {
        Edge.refused(Edge.NOW, Scene::lineClosed, "date", 1, 5);
        Edge.refused(Edge.NOW, Scene::closed, "date", 1, 5);
        Edge.refused(Edge.NOW, Scene::lineClosed, "date", 2, 5);
        Edge.refused(Edge.NOW, Scene.after(Scene::lineClosed, x -> x.day(50)), "date", 1, 49);
        Edge.answered(1, Scene.after(Scene::counted, x -> x.close(1, 1)), "date", 1, 5);
    }

    private static void stateThen() {
        Edge.answered(0, Scene::late, "take", 1, 2);
        Edge.answered(0, Scene.after(Scene::late, x -> x.take(1, 2)), "unit", 1, 0);
        Edge.answered(49, Scene.after(Scene::late, x -> x.take(1, 2)), "unit", 1, 5);
        Supplier<ReceiveSteps> bad = Scene.after(Scene::late, EdgesOfUnitsTest::badSample);
        Edge.answered(2, bad, "take", 1, 2);
        Edge.answered(2, Scene.after(bad, x -> x.take(1, 2)), "unit", 1, 0);
        Supplier<ReceiveSteps> otherBad = Scene.after(Scene::late, x -> {
            x.wanted(1, 1, 1);
            x.sample(1, 1, false);
        });
        Edge.answered(0, otherBad, "take", 1, 2);
    }

    private static void takeNotWaiting() {
        Edge.refused(Edge.NOW, Scene::late, "take", 2, 2);
        Edge.refused(Edge.NOW, Scene::counted, "take", 1, 2);
        Edge.refused(Edge.NOW, Scene::broken, "take", 2, 2);
        Edge.refused(Edge.NOW, Scene.after(Scene::late, x -> x.damaged(1, 1)), "take", 1, 2);
        Edge.refused(Edge.NOW, Scene.after(Scene::late, x -> x.take(1, 2)), "take", 1, 2);
        Edge.refused(Edge.NOW, Scene.after(Scene::late, x -> x.date(1, 50)), "take", 1, 2);
        Edge.refused(Edge.NOW, Scene.after(Scene::counted, EdgesOfUnitsTest::badSample), "take", 1, 2);
        Edge.refused(Edge.NOW, Scene.after(Scene::counted, x -> {
            x.date(1, 5);
            x.day(6);
        }), "take", 1, 2);
        Edge.refused(Edge.NOW, Scene::lineClosed, "take", 1, 2);
        Edge.refused(Edge.NOW, Scene::closed, "take", 1, 2);
    }

    private static void takeWithoutRight() {
        for (int person = 0; person < 8; person++) {
            int one = person;
            if (person != 2) {
                Edge.refused(Edge.NOW, Scene::late, "take", 1, person);
            }
            Supplier<ReceiveSteps> may = Scene.after(Scene::late, x -> x.right(one, true));
            Edge.answered(0, may, "take", 1, person);
            Edge.refused(Edge.NOW, Scene.after(may, x -> x.right(one, false)), "take", 1, person);
        }
    }

    private static void labelMade() {
        Edge.answered(0, Scene::counted, "unit", 1, 7);
        Edge.answered(3000010, Scene::counted, "label", 1);
        Edge.answered(3000010, Scene::counted, "label", 2);
        Supplier<ReceiveSteps> one = Scene.after(Scene::counted, x -> x.label(2));
        Edge.answered(3000010, one, "label", 2);
        Edge.answered(3000029, one, "label", 1);
        Edge.answered(3000010, one, "unit", 2, 7);
        Edge.answered(0, one, "unit", 1, 7);
        Edge.answered(1, one, "count", 2);
        Edge.answered(1, Scene.after(one, x -> x.label(2)), "count", 2);
        Edge.answered(3000010, Scene::broken, "label", 2);
        Edge.answered(3000010, Scene::late, "label", 1);
        Edge.answered(3000029, Scene::lineClosed, "label", 2);
        Edge.answered(3000029, Scene::closed, "label", 2);
        Edge.answered(3000010, Scene.after(Scene::counted, EdgesOfUnitsTest::badSample), "label", 1);
    }

    private static void howOften() {
        Supplier<ReceiveSteps> one = Scene.after(Scene::counted, x -> x.label(1));
        Edge.answered(2, one, "again", 1);
        Supplier<ReceiveSteps> twice = Scene.after(one, x -> x.label(1));
        Edge.answered(3, twice, "again", 1);
        Supplier<ReceiveSteps> other = Scene.after(twice, x -> {
            x.again(1);
            x.label(2);
            x.again(2);
        });
        Edge.answered(4, other, "again", 1);
        Edge.answered(3, other, "again", 2);
        Edge.answered(3000010, Scene.after(one, x -> x.again(1)), "unit", 1, 7);
        Edge.answered(1, Scene.after(one, x -> x.again(1)), "count", 2);
        Edge.answered(2, Scene::closed, "again", 1);
        ReceiveSteps many = one.get();
        for (int prints = 2; prints <= 300; prints++) {
            Check.due("printed", many.again(1), prints);
        }
    }

    private static void noLabel() {
        Edge.refused(Edge.NOW, Scene::counted, "again", 1);
        Edge.refused(Edge.NOW, Scene.after(Scene::counted, x -> x.label(1)), "again", 2);
        Edge.refused(Edge.NOW, Scene::broken, "again", 2);
        Edge.refused(Edge.NOW, Scene::closed, "again", 2);
    }
}
