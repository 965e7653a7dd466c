import java.util.function.Supplier;

/** The edges that the section Terms of the document names, each sentence by a test of its own. */
public final class EdgesOfTermsTest {
    public static void main(String[] args) {
        numbers();
        announcements();
        counting();
        units();
        samples();
        labels();
        Check.end();
    }

    private static void numbers() {
        Check.sentence("DAYS are 0 .. 10000", EdgesOfTermsTest::days);
        Check.sentence("(today is 0 at first)", EdgesOfTermsTest::firstDay);
        Check.sentence("OWNERS, PERSONS 0 .. 7", EdgesOfTermsTest::owners);
        Check.sentence("OWNERS, PERSONS 0 .. 7", EdgesOfTermsTest::persons);
        Check.sentence("GOODS 0 .. 9", EdgesOfTermsTest::goods);
        Check.sentence("DOORS 0 .. 3", EdgesOfTermsTest::doors);
        Check.sentence("LOTS 0 .. 99", EdgesOfTermsTest::lots);
        Check.sentence("A person has the RIGHT to accept, or not (not at first).", EdgesOfTermsTest::rightAtFirst);
    }

    private static void announcements() {
        Check.sentence("ANNOUNCEMENTS are numbered 1, 2, .. (at most 16).", EdgesOfTermsTest::mostAnnouncements);
        Check.sentence("ANNOUNCEMENTS are numbered 1, 2, .. (at most 16).", EdgesOfTermsTest::noSuchAnnouncement);
        Check.sentence("One has an owner and 1 to 4 LINES", EdgesOfTermsTest::mostLines);
        Check.sentence("told one by one (numbered 0, 1, ..)", EdgesOfTermsTest::linesOneByOne);
        Check.sentence("told one by one (numbered 0, 1, ..)", EdgesOfTermsTest::noSuchLine);
        Check.sentence("a good and how many pieces (0 .. 400)", EdgesOfTermsTest::piecesAnnounced);
        Check.sentence("Its STATE: 0 ANNOUNCED; when it comes to a door, 1 ARRIVED, or, if nobody knew of it, 2 WAITING"
                + " until a person accepts it (then ARRIVED); 3 CLOSED.", EdgesOfTermsTest::states);
    }

    private static void counting() {
        Check.sentence("UNITS, numbered 1, 2, .. (at most 120)", EdgesOfTermsTest::mostUnits);
        Check.sentence("UNITS, numbered 1, 2, .. (at most 120)", EdgesOfTermsTest::noSuchUnit);
        Check.sentence("of 50 pieces each, and one of the rest", EdgesOfTermsTest::piecesOfUnits);
        Check.sentence("a line's counts are added up", EdgesOfTermsTest::countsAddedUp);
        Check.sentence("A line takes at most what was announced and its TOLERANCE of that", EdgesOfTermsTest::mostTaken);
        Check.sentence("(in hundredths, 0 .. 50, 0 at first; rests are dropped)", EdgesOfTermsTest::hundredths);
        Check.sentence("(in hundredths, 0 .. 50, 0 at first; rests are dropped)", EdgesOfTermsTest::restsDropped);
    }

    private static void units() {
        Check.sentence("UNITS have a lot, pieces, perhaps a last day and a label.", EdgesOfTermsTest::newUnit);
        Check.sentence("A unit's STATE: 0 GOOD, 1 DAMAGED, 2 QUARANTINE, 3 WAITING (for its day to be accepted).",
                EdgesOfTermsTest::unitStates);
        Check.sentence("DAMAGED ones stay so.", EdgesOfTermsTest::damagedStay);
        Check.sentence("A unit without a last day, or with one that is not before today, as it was told, does not wait.",
                EdgesOfTermsTest::waiting);
    }

    private static void samples() {
        Check.sentence("so many (0 .. 5) are WANTED of a line, 0 at first", EdgesOfTermsTest::samplesWanted);
        Check.sentence("verdicts are told one by one", EdgesOfTermsTest::verdicts);
        Check.sentence("with a bad one all its GOOD units", EdgesOfTermsTest::goodUnitsOfBadLine);
        Check.sentence("and those that come later, are in QUARANTINE", EdgesOfTermsTest::laterUnitsOfBadLine);
        Check.sentence("(those that wait when they are accepted)", EdgesOfTermsTest::waitingUnitsOfBadLine);
    }

    private static void labels() {
        Check.sentence("the running number n (1, 2, .. as units get their first one)", EdgesOfTermsTest::runningNumber);
        Check.sentence("makes seven digits: the owner's, five of n, and the CHECK DIGIT", EdgesOfTermsTest::sevenDigits);
        Check.sentence("that by which 3 times the first, third and fifth digit, once the second, fourth and sixth, and it"
                + " are a multiple of 10.", EdgesOfTermsTest::checkDigits);
        Check.sentence("A unit's label stays.", EdgesOfTermsTest::labelStays);
    }

    private static void days() {
        Edge.range(0, 10000, 0, Scene::counted, "day", 0);
        Edge.range(0, 10000, 1, Scene::counted, "date", 1, 0);
        Edge.answered(10000, Scene.after(Scene::told, x -> x.day(10000)), "count", 3);
        Edge.answered(0, Scene.after(Scene::counted, x -> x.date(1, 0)), "unit", 1, 5);
        Edge.answered(10000, Scene.after(Scene::counted, x -> x.date(1, 10000)), "unit", 1, 5);
    }

    private static void firstDay() {
        Edge.answered(0, ReceiveSteps::new, "count", 3);
        Edge.answered(0, ReceiveSteps::new, "day", 0);
        Edge.answered(1, Scene::counted, "date", 1, 0);
    }

    private static void owners() {
        Edge.range(0, 7, 0, Scene::told, "announce", 0, 1);
        for (int owner = 0; owner < 8; owner++) {
            ReceiveSteps x = new ReceiveSteps();
            x.announce(owner, 1);
            Check.due("owner " + owner, x.state(1, 1), owner);
        }
    }

    /** The numbers 32 more and less too, because bits of an int begin anew there. */
    private static void persons() {
        Supplier<ReceiveSteps> waiting = Scene.after(Scene::waiting, Scene::allMay);
        Supplier<ReceiveSteps> late = Scene.after(Scene::late, Scene::allMay);
        Edge.range(0, 7, 0, Scene::waiting, "right", 0, 1);
        Edge.range(0, 7, 0, Scene::waiting, "right", 0, 0);
        Edge.range(0, 7, 1, waiting, "accept", 1, 0);
        Edge.range(0, 7, 4, Scene::arrived, "countPieces", 1, 0, 1, 0, 0);
        Edge.range(0, 7, 1, late, "take", 1, 0);
        int[] again = {34, -30, 32, -32};
        for (int person : again) {
            Edge.refused(Edge.RANGE, Scene::waiting, "right", person, 0);
            Edge.refused(Edge.RANGE, waiting, "accept", 1, person);
            Edge.refused(Edge.RANGE, Scene::arrived, "countPieces", 1, 0, 1, 0, person);
            Edge.refused(Edge.RANGE, late, "take", 1, person);
        }
    }

    private static void goods() {
        Edge.range(0, 9, 1, Scene::halfTold, "line", 1, 0, 10);
        for (int good = 0; good < 10; good++) {
            ReceiveSteps x = Scene.halfTold();
            x.line(1, good, 10);
            Check.due("good " + good, x.told(1, 1, 0), good);
        }
    }

    private static void doors() {
        Edge.range(0, 3, 1, Scene::told, "arrive", 1, 0, 1);
        Edge.range(0, 3, 1, Scene::told, "arrive", 1, 0, 0);
        for (int door = 0; door < 4; door++) {
            ReceiveSteps x = Scene.told();
            x.arrive(1, door, true);
            Check.due("door " + door, x.state(1, 3), door);
        }
    }

    private static void lots() {
        Edge.range(0, 99, 3, Scene::arrived, "countPieces", 1, 0, 10, 0, 0);
        Edge.answered(0, Scene.after(Scene::arrived, x -> x.count(1, 0, 10, 0, 0)), "unit", 1, 4);
        Edge.answered(99, Scene.after(Scene::arrived, x -> x.count(1, 0, 10, 99, 0)), "unit", 1, 4);
    }

    private static void rightAtFirst() {
        Supplier<ReceiveSteps> waiting = Scene.after(Scene::told, x -> x.arrive(1, 0, false));
        Supplier<ReceiveSteps> late = Scene.after(Scene::eightUnits, x -> {
            x.day(1);
            x.date(8, 0);
        });
        for (int person = 0; person < 8; person++) {
            Edge.refused(Edge.NOW, waiting, "accept", 1, person);
            Edge.refused(Edge.NOW, late, "take", 8, person);
        }
    }

    private static void mostAnnouncements() {
        ReceiveSteps x = new ReceiveSteps();
        for (int a = 1; a <= 16; a++) {
            Check.due("announcement " + a, x.announce(7, 4), a);
            Check.due("announcements", x.count(0), a);
        }
        Edge.refused(Edge.ROOM, Scene::full, "announce", 0, 1);
        Edge.refused(Edge.ROOM, Scene.after(Scene::full, y -> {
            y.close(1, 0);
            y.closeAll(1);
        }), "announce", 7, 4);
        Edge.answered(0, Scene::full, "state", 16, 0);
        Edge.answered(400, Scene::full, "told", 16, 0, 1);
    }

    /** Every call that is told an announcement: below the first, above the last, and above all there can be. */
    private static void noSuchAnnouncement() {
        int[] one = {0, -1, 2, 16, 17, Edge.LOWEST, Edge.HIGHEST};
        int[] full = {0, -1, 17, 18, Edge.LOWEST, Edge.HIGHEST};
        Edge.none(one, 0, Scene::halfTold, "line", 1, 0, 0);
        Edge.none(one, 0, Scene::told, "arrive", 1, 0, 1);
        Edge.none(one, 0, Scene::waiting, "accept", 1, 2);
        Edge.none(one, 0, Scene::counted, "tolerance", 1, 0, 1);
        Edge.none(one, 0, Scene::counted, "wanted", 1, 0, 1);
        Edge.none(one, 0, Scene::counted, "countPieces", 1, 0, 1, 0, 0);
        Edge.none(one, 0, Scene.after(Scene::counted, x -> x.wanted(1, 0, 1)), "sample", 1, 0, 1);
        Edge.none(one, 0, Scene::arrived, "close", 1, 0);
        Edge.none(one, 0, Scene::arrived, "closeAll", 1);
        Edge.none(one, 0, Scene::broken, "claim", 1, 0);
        Edge.none(one, 0, Scene::counted, "told", 1, 0, 0);
        Edge.none(one, 0, Scene::counted, "state", 1, 0);
        Edge.none(full, 0, Scene::full, "state", 1, 0);
        Edge.none(full, 0, Scene::full, "told", 1, 0, 0);
        Edge.none(full, 0, Scene::full, "claim", 1, 0);
    }

    private static void mostLines() {
        Edge.range(1, 4, 1, Scene::told, "announce", 0, 1);
        for (int lines = 1; lines <= 4; lines++) {
            ReceiveSteps x = Scene.lines(new int[lines]);
            Check.due("lines told of " + lines, x.state(1, 2), lines);
            int[] pieces = new int[lines];
            Edge.refused(Edge.NOW, () -> Scene.lines(pieces), "line", 1, 0, 0);
        }
    }

    private static void linesOneByOne() {
        ReceiveSteps x = new ReceiveSteps();
        x.announce(0, 4);
        Check.due("lines told at first", x.state(1, 2), 0);
        for (int line = 0; line < 4; line++) {
            Check.due("line " + line, x.line(1, line, 10 * line), line);
            Check.due("lines told", x.state(1, 2), line + 1);
        }
        for (int line = 0; line < 4; line++) {
            Check.due("good of line " + line, x.told(1, line, 0), line);
            Check.due("pieces of line " + line, x.told(1, line, 1), 10 * line);
        }
    }

    /** Every call that is told a line: below the first, the next to be told, and above all there can be. */
    private static void noSuchLine() {
        int[] others = {-1, 2, 3, 4, Edge.LOWEST, Edge.HIGHEST};
        Edge.none(others, 1, Scene::counted, "tolerance", 1, 0, 1);
        Edge.none(others, 1, Scene::counted, "wanted", 1, 0, 1);
        Edge.none(others, 1, Scene::counted, "countPieces", 1, 0, 1, 0, 0);
        Edge.none(others, 1, Scene.after(Scene::counted, x -> x.wanted(1, 0, 1)), "sample", 1, 0, 1);
        Edge.none(others, 1, Scene::arrived, "close", 1, 0);
        Edge.none(others, 1, Scene::counted, "told", 1, 0, 0);
        Edge.none(new int[] {-1, 4, 5}, 1, () -> Scene.lines(1, 2, 3, 4), "told", 1, 0, 0);
        Edge.none(new int[] {0, 1}, 1, Scene.after(Scene::told, x -> x.announce(0, 2)), "told", 2, 0, 0);
        int[] notYet = {1};
        Edge.none(notYet, 1, Scene::halfTold, "tolerance", 1, 0, 1);
        Edge.none(notYet, 1, Scene::halfTold, "wanted", 1, 0, 1);
        Edge.none(notYet, 1, Scene::halfTold, "countPieces", 1, 0, 1, 0, 0);
        Edge.none(notYet, 1, Scene::halfTold, "sample", 1, 0, 1);
        Edge.none(notYet, 1, Scene::halfTold, "close", 1, 0);
        Edge.none(notYet, 1, Scene::halfTold, "told", 1, 0, 0);
    }

    private static void piecesAnnounced() {
        Edge.range(0, 400, 2, Scene::halfTold, "line", 1, 0, 0);
        Edge.answered(0, () -> Scene.lines(0), "told", 1, 0, 1);
        Edge.answered(400, () -> Scene.lines(400), "told", 1, 0, 1);
    }

    private static void states() {
        ReceiveSteps x = Scene.lines(0);
        Check.due("ANNOUNCED", x.state(1, 0), 0);
        x.arrive(1, 0, false);
        Check.due("WAITING", x.state(1, 0), 2);
        x.right(7, true);
        x.accept(1, 7);
        Check.due("accepted", x.state(1, 0), 1);
        x.close(1, 0);
        Check.due("its line closed", x.state(1, 0), 1);
        x.closeAll(1);
        Check.due("CLOSED", x.state(1, 0), 3);
        Edge.answered(1, () -> Scene.linesArrived(0), "state", 1, 0);
    }

    private static void mostUnits() {
        ReceiveSteps x = Scene.roomFor(1);
        Check.due("units", x.count(1), 119);
        Check.due("the last one", x.count(4, 3, 50, 99, 7), 1);
        Check.due("units", x.count(1), 120);
        int[] want = {0, 4, 3, 50, 99, -1, 0, 0};
        for (int what = 0; what < 8; what++) {
            Check.due("unit(120, " + what + ")", x.unit(120, what), want[what]);
        }
        Edge.refused(Edge.ROOM, () -> Scene.roomFor(0), "countPieces", 4, 3, 1, 0, 0);
        Edge.refused(Edge.ROOM, () -> Scene.roomFor(1), "countPieces", 4, 3, 51, 0, 0);
    }

    /** Every call that is told a unit: below the first, above the last, and above all there can be. */
    private static void noSuchUnit() {
        int[] two = {0, -1, 3, 120, 121, Edge.LOWEST, Edge.HIGHEST};
        Edge.none(two, 0, Scene::counted, "damaged", 1, 1);
        Edge.none(two, 0, Scene::counted, "date", 1, 1);
        Edge.none(two, 0, Scene::late, "take", 1, 2);
        Edge.none(two, 0, Scene::counted, "label", 1);
        Edge.none(two, 0, Scene.after(Scene::counted, x -> x.label(1)), "again", 1);
        Edge.none(two, 0, Scene::counted, "unit", 1, 0);
        int[] full = {0, -1, 121, 122, Edge.LOWEST, Edge.HIGHEST};
        Edge.none(full, 0, () -> Scene.roomFor(0), "unit", 1, 0);
        Edge.none(full, 0, () -> Scene.roomFor(0), "label", 1);
        Edge.none(full, 0, () -> Scene.roomFor(0), "damaged", 1, 1);
    }

    private static void piecesOfUnits() {
        int[][] counts = {{1, 1, 1}, {49, 1, 49}, {50, 1, 50}, {51, 2, 1}, {99, 2, 49}, {100, 2, 50}, {101, 3, 1},
            {350, 7, 50}, {351, 8, 1}, {399, 8, 49}, {400, 8, 50}};
        for (int[] each : counts) {
            ReceiveSteps x = Scene.linesArrived(400);
            Check.due("units of " + each[0], x.count(1, 0, each[0], 5, 0), each[1]);
            Check.due("units made of " + each[0], x.count(1), each[1]);
            for (int u = 1; u < each[1]; u++) {
                Check.due("pieces of unit " + u + " of " + each[0], x.unit(u, 3), 50);
            }
            Check.due("the rest of " + each[0], x.unit(each[1], 3), each[2]);
        }
    }

    /** Rests of two counts make no unit together. */
    private static void countsAddedUp() {
        ReceiveSteps x = Scene.linesArrived(100, 100);
        Check.due("nothing counted", x.told(1, 0, 2), 0);
        Check.due("30 pieces", x.count(1, 0, 30, 0, 0), 1);
        Check.due("20 pieces", x.count(1, 0, 20, 0, 1), 1);
        Check.due("units", x.count(1), 2);
        Check.due("added up", x.told(1, 0, 2), 50);
        Check.due("the other line", x.told(1, 1, 2), 0);
        Check.due("one too many", x.count(1, 0, 51, 0, 2), -4);
        Check.due("to the last one", x.count(1, 0, 50, 0, 2), 1);
        Check.due("added up", x.told(1, 0, 2), 100);
    }

    private static void mostTaken() {
        Edge.answered(8, () -> Scene.linesArrived(400), "countPieces", 1, 0, 400, 0, 0);
        Edge.broken(-4, () -> Scene.linesArrived(399), "countPieces", 1, 0, 400, 0, 0);
        Edge.broken(-4, () -> Scene.linesArrived(0), "countPieces", 1, 0, 1, 0, 0);
        Supplier<ReceiveSteps> most = Scene.after(Scene::eightUnits, x -> x.tolerance(1, 0, 50));
        Edge.answered(600, most, "told", 1, 0, 6);
        Edge.answered(4, most, "countPieces", 1, 0, 200, 0, 1);
        Edge.broken(-4, most, "countPieces", 1, 0, 201, 0, 1);
        Supplier<ReceiveSteps> full = Scene.after(most, x -> x.count(1, 0, 200, 0, 1));
        Edge.answered(600, full, "told", 1, 0, 2);
        Edge.broken(-4, full, "countPieces", 1, 0, 1, 0, 2);
        Supplier<ReceiveSteps> fewer = Scene.after(full, x -> x.tolerance(1, 0, 0));
        Edge.answered(600, fewer, "told", 1, 0, 2);
        Edge.answered(400, fewer, "told", 1, 0, 6);
        Edge.broken(-4, fewer, "countPieces", 1, 0, 1, 0, 2);
    }

    private static void hundredths() {
        Edge.range(0, 50, 2, Scene::counted, "tolerance", 1, 0, 0);
        Edge.answered(120, Scene::counted, "told", 1, 0, 6);
        Edge.broken(-4, Scene::counted, "countPieces", 1, 0, 61, 0, 0);
    }

    private static void restsDropped() {
        int[][] takes = {{0, 50, 0}, {1, 50, 1}, {2, 50, 3}, {3, 50, 4}, {99, 1, 99}, {100, 1, 101}, {101, 1, 102},
            {199, 1, 200}, {200, 1, 202}, {3, 33, 3}, {4, 25, 5}, {4, 24, 4}, {399, 50, 598}, {400, 50, 600}, {400, 1, 404}};
        for (int[] each : takes) {
            ReceiveSteps x = Scene.linesArrived(each[0]);
            x.tolerance(1, 0, each[1]);
            Check.due(each[0] + " and " + each[1] + " hundredths", x.told(1, 0, 6), each[2]);
            int first = Math.min(each[2], 400);
            if (first > 0) {
                x.count(1, 0, first, 0, 0);
            }
            Check.due("one more than " + each[2], x.count(1, 0, each[2] - first + 1, 0, 1), -4);
        }
    }

    private static void newUnit() {
        ReceiveSteps x = Scene.arrived();
        x.count(1, 1, 30, 42, 6);
        int[] want = {0, 1, 1, 30, 42, -1, 0, 0};
        for (int what = 0; what < 8; what++) {
            Check.due("unit(1, " + what + ")", x.unit(1, what), want[what]);
        }
    }

    private static void unitStates() {
        Edge.answered(0, Scene::counted, "unit", 1, 0);
        Edge.answered(1, Scene::broken, "unit", 2, 0);
        Edge.answered(3, Scene::late, "unit", 1, 0);
        Edge.answered(2, Scene.after(Scene::counted, EdgesOfTermsTest::badSample), "unit", 1, 0);
    }

    private static void badSample(ReceiveSteps x) {
        x.wanted(1, 0, 1);
        x.sample(1, 0, false);
    }

    private static void damagedStay() {
        Supplier<ReceiveSteps> damaged = Scene.after(Scene::late, x -> x.damaged(1, 9));
        Edge.answered(1, damaged, "unit", 1, 0);
        Edge.answered(1, Scene.after(damaged, EdgesOfTermsTest::badSample), "unit", 1, 0);
        Edge.answered(1, Scene.after(damaged, x -> x.day(10000)), "unit", 1, 0);
        Edge.answered(1, Scene.after(damaged, x -> x.label(1)), "unit", 1, 0);
        Edge.refused(Edge.NOW, damaged, "date", 1, 50);
        Edge.refused(Edge.NOW, damaged, "take", 1, 2);
        Edge.refused(Edge.NOW, damaged, "damaged", 1, 1);
        Edge.answered(1, Scene::closed, "unit", 2, 0);
        Supplier<ReceiveSteps> fromQuarantine = Scene.after(Scene::counted, x -> {
            badSample(x);
            x.damaged(1, 1);
        });
        Edge.answered(1, fromQuarantine, "unit", 1, 0);
        Edge.answered(2, fromQuarantine, "unit", 2, 0);
    }

    private static void waiting() {
        Edge.answered(0, Scene.after(Scene::counted, x -> x.day(10000)), "unit", 1, 0);
        ReceiveSteps x = Scene.counted();
        x.day(50);
        Check.due("today", x.date(1, 50), 1);
        Check.due("yesterday", x.date(2, 49), 2);
        Check.due("today: state", x.unit(1, 0), 0);
        Check.due("yesterday: state", x.unit(2, 0), 3);
        x.day(51);
        Check.due("as it was told on its day", x.unit(1, 0), 0);
        Check.due("it still waits", x.unit(2, 0), 3);
        Check.due("told again a day later", x.date(1, 50), 2);
        Check.due("it waits", x.unit(1, 0), 3);
        ReceiveSteps last = Scene.counted();
        last.day(10000);
        Check.due("the last of all days", last.date(1, 10000), 1);
        Check.due("the last but one", last.date(2, 9999), 2);
    }

    private static void samplesWanted() {
        Edge.range(0, 5, 2, Scene::counted, "wanted", 1, 0, 0);
        Edge.answered(0, Scene::counted, "told", 1, 0, 4);
        for (int samples = 0; samples <= 5; samples++) {
            ReceiveSteps x = Scene.counted();
            x.wanted(1, 0, samples);
            Check.due("open of " + samples, x.told(1, 0, 4), samples);
            Check.due("open of the other line", x.told(1, 1, 4), 0);
        }
    }

    private static void verdicts() {
        Supplier<ReceiveSteps> five = Scene.after(Scene::counted, x -> x.wanted(1, 0, 5));
        ReceiveSteps x = five.get();
        for (int open = 4; open >= 0; open--) {
            Check.due("open then", x.sample(1, 0, true), open);
            Check.due("open", x.told(1, 0, 4), open);
        }
        Edge.refused(Edge.NOW, Scene.after(five, y -> {
            for (int k = 0; k < 5; k++) {
                y.sample(1, 0, true);
            }
        }), "sample", 1, 0, 0);
        Edge.refused(Edge.NOW, Scene::counted, "sample", 1, 0, 0);
    }

    private static void goodUnitsOfBadLine() {
        ReceiveSteps x = Scene.roomFor(8);
        x.wanted(1, 1, 2);
        x.sample(1, 1, true);
        Check.due("after a good one", x.unit(9, 0), 0);
        x.sample(1, 1, false);
        for (int u = 1; u <= 112; u++) {
            Check.due("state of " + u, x.unit(u, 0), u >= 9 && u <= 16 ? 2 : 0);
        }
        ReceiveSteps firstBad = Scene.counted();
        firstBad.wanted(1, 0, 2);
        firstBad.sample(1, 0, false);
        firstBad.sample(1, 0, true);
        Check.due("a good one does not help", firstBad.unit(1, 0), 2);
        Check.due("one was bad", firstBad.told(1, 0, 5), 1);
        firstBad.wanted(1, 0, 0);
        Check.due("nor does it that none is wanted", firstBad.unit(1, 0), 2);
    }

    private static void laterUnitsOfBadLine() {
        ReceiveSteps x = Scene.arrived();
        badSample(x);
        x.count(1, 0, 51, 0, 0);
        x.count(1, 1, 1, 0, 0);
        Check.due("the first one later", x.unit(1, 0), 2);
        Check.due("the rest later", x.unit(2, 0), 2);
        Check.due("of the other line", x.unit(3, 0), 0);
    }

    private static void waitingUnitsOfBadLine() {
        Supplier<ReceiveSteps> late = Scene.after(Scene::late, EdgesOfTermsTest::badSample);
        Edge.answered(3, late, "unit", 1, 0);
        Edge.answered(2, late, "unit", 2, 0);
        Edge.answered(2, late, "take", 1, 2);
        Edge.answered(2, Scene.after(late, x -> x.take(1, 2)), "unit", 1, 0);
        Supplier<ReceiveSteps> accepted = Scene.after(Scene::late, x -> {
            x.take(1, 2);
            badSample(x);
        });
        Edge.answered(2, accepted, "unit", 1, 0);
        Supplier<ReceiveSteps> laterLate = Scene.after(Scene::counted, x -> {
            badSample(x);
            x.day(9);
            x.date(1, 8);
        });
        Edge.answered(3, laterLate, "unit", 1, 0);
        Edge.answered(2, laterLate, "take", 1, 2);
    }

    private static void runningNumber() {
        ReceiveSteps x = Scene.roomFor(0);
        Check.due("labels at first", x.count(2), 0);
        for (int n = 1; n <= 120; n++) {
            int label = x.label(121 - n);
            Check.due("running number of " + (121 - n), label / 10 % 100000, n);
            Check.due("labels", x.count(2), n);
        }
        x.label(120);
        Check.due("a second print makes none", x.count(2), 120);
    }

    private static void sevenDigits() {
        Edge.answered(19, Scene::eightUnits, "label", 8);
        ReceiveSteps x = new ReceiveSteps();
        x.announce(7, 1);
        x.line(1, 0, 1);
        x.arrive(1, 0, true);
        x.count(1, 0, 1, 0, 0);
        Check.due("of owner 7", x.label(1), 7000018);
        ReceiveSteps full = Scene.roomFor(0);
        for (int u = 1; u <= 120; u++) {
            Check.due("owner's digit of " + u, full.label(u) / 1000000, 1 + (u - 1) / 32);
        }
    }

    /** The digits of the document's words: 3 of the owner, and the five of n. */
    private static int checkDigit(int owner, int n) {
        int sum = 3 * owner + n / 10000 + 3 * (n / 1000 % 10) + n / 100 % 10 + 3 * (n / 10 % 10) + n % 10;
        int digit = 0;
        while ((sum + digit) % 10 != 0) {
            digit++;
        }
        return digit;
    }

    private static void checkDigits() {
        ReceiveSteps x = Scene.roomFor(0);
        boolean[] met = new boolean[10];
        for (int u = 1; u <= 120; u++) {
            int owner = 1 + (u - 1) / 32;
            int digit = x.label(u) % 10;
            met[digit] = true;
            Check.due("check digit of " + u, digit, checkDigit(owner, u));
        }
        for (int digit = 0; digit < 10; digit++) {
            Check.due("digit " + digit + " is met", met[digit] ? 1 : 0, 1);
        }
    }

    private static void labelStays() {
        ReceiveSteps x = Scene.late();
        int label = x.label(1);
        x.label(2);
        x.again(1);
        x.take(1, 2);
        Check.due("accepted", x.unit(1, 7), label);
        badSample(x);
        Check.due("in quarantine", x.label(1), label);
        x.damaged(1, 1);
        Check.due("damaged", x.label(1), label);
        x.close(1, 0);
        Check.due("line closed", x.label(1), label);
        x.close(1, 1);
        x.closeAll(1);
        Check.due("all closed", x.label(1), label);
        Check.due("labels", x.count(2), 2);
    }
}
