import java.util.function.Supplier;

/** The edges that promises 1 to 8 name, each sentence by a test of its own. */
public final class EdgesOfAnnouncingTest {
    public static void main(String[] args) {
        making();
        arriving();
        accepting();
        telling();
        Check.end();
    }

    private static void making() {
        Check.sentence("`ReceiveSteps()`: Nothing announced.", EdgesOfAnnouncingTest::nothingAnnounced);
        Check.sentence("`ReceiveSteps()`: Nothing announced.", EdgesOfAnnouncingTest::nothingThereYet);
        Check.sentence("`ReceiveSteps()`: Nothing announced.", EdgesOfAnnouncingTest::eachByItself);
        Check.sentence("An announcement of an owner with so many lines (1 .. 4): its number.",
                EdgesOfAnnouncingTest::announced);
        Check.sentence("UnsupportedOperationException: no room", EdgesOfAnnouncingTest::noRoom);
        Check.sentence("Its next line: which.", EdgesOfAnnouncingTest::nextLine);
        Check.sentence("IllegalStateException: it has all, or is CLOSED.", EdgesOfAnnouncingTest::hasAllLines);
    }

    private static void arriving() {
        Check.sentence("It comes to a door, known or not: its state then.", EdgesOfAnnouncingTest::comes);
        Check.sentence("IllegalStateException: it is not ANNOUNCED", EdgesOfAnnouncingTest::notAnnounced);
        Check.sentence("has not all its lines", EdgesOfAnnouncingTest::hasNotAllLines);
        Check.sentence("or the door is taken by one that is neither ANNOUNCED nor CLOSED.", EdgesOfAnnouncingTest::doorTaken);
    }

    private static void accepting() {
        Check.sentence("A person accepts one that is WAITING. IllegalStateException: it is not",
                EdgesOfAnnouncingTest::notWaiting);
        Check.sentence("A person accepts one that is WAITING. IllegalStateException: it is not, or the person has not the"
                + " right.", EdgesOfAnnouncingTest::acceptsWithoutRight);
        Check.sentence("A person may accept, or not any more.", EdgesOfAnnouncingTest::mayAccept);
    }

    private static void telling() {
        Check.sentence("A line's tolerance.", EdgesOfAnnouncingTest::tolerance);
        Check.sentence("A line's tolerance. IllegalStateException: the line is closed.",
                EdgesOfAnnouncingTest::toleranceOfClosed);
        Check.sentence("So many samples are wanted of a line.", EdgesOfAnnouncingTest::wanted);
        Check.sentence("So many samples are wanted of a line. IllegalStateException: it is closed.",
                EdgesOfAnnouncingTest::wantedOfClosed);
    }

    private static void nothingAnnounced() {
        for (int what = 0; what < 5; what++) {
            Edge.answered(0, ReceiveSteps::new, "count", what);
        }
    }

    private static void nothingThereYet() {
        Edge.refused(Edge.NONE, ReceiveSteps::new, "line", 1, 0, 0);
        Edge.refused(Edge.NONE, ReceiveSteps::new, "arrive", 1, 0, 1);
        Edge.refused(Edge.NONE, ReceiveSteps::new, "accept", 1, 0);
        Edge.refused(Edge.NONE, ReceiveSteps::new, "tolerance", 1, 0, 0);
        Edge.refused(Edge.NONE, ReceiveSteps::new, "wanted", 1, 0, 0);
        Edge.refused(Edge.NONE, ReceiveSteps::new, "countPieces", 1, 0, 1, 0, 0);
        Edge.refused(Edge.NONE, ReceiveSteps::new, "damaged", 1, 1);
        Edge.refused(Edge.NONE, ReceiveSteps::new, "sample", 1, 0, 1);
        Edge.refused(Edge.NONE, ReceiveSteps::new, "date", 1, 0);
        Edge.refused(Edge.NONE, ReceiveSteps::new, "take", 1, 0);
        Edge.refused(Edge.NONE, ReceiveSteps::new, "label", 1);
        Edge.refused(Edge.NONE, ReceiveSteps::new, "again", 1);
        Edge.refused(Edge.NONE, ReceiveSteps::new, "close", 1, 0);
        Edge.refused(Edge.NONE, ReceiveSteps::new, "closeAll", 1);
        Edge.refused(Edge.NONE, ReceiveSteps::new, "differ", 0, 0);
        Edge.refused(Edge.NONE, ReceiveSteps::new, "claim", 1, 0);
        Edge.refused(Edge.NONE, ReceiveSteps::new, "unit", 1, 0);
        Edge.refused(Edge.NONE, ReceiveSteps::new, "told", 1, 0, 0);
        Edge.refused(Edge.NONE, ReceiveSteps::new, "state", 1, 0);
    }

    /** What one object is told another does not know. */
    private static void eachByItself() {
        ReceiveSteps first = Scene.closed();
        first.day(77);
        ReceiveSteps second = new ReceiveSteps();
        for (int what = 0; what < 5; what++) {
            Check.due("count(" + what + ") of the second", second.count(what), 0);
        }
        Check.due("number of the second's first", second.announce(0, 1), 1);
        Check.due("announcements of the first", first.count(0), 1);
        Check.due("owner of the first's", first.state(1, 1), 3);
    }

    private static void announced() {
        ReceiveSteps x = new ReceiveSteps();
        for (int lines = 1; lines <= 4; lines++) {
            Check.due("of " + lines + " lines", x.announce(7 - lines, lines), lines);
            Check.due("its state", x.state(lines, 0), 0);
            Check.due("its owner", x.state(lines, 1), 7 - lines);
            Check.due("its lines told", x.state(lines, 2), 0);
            Check.due("its door", x.state(lines, 3), -1);
        }
    }

    private static void noRoom() {
        Edge.answered(16, Scene.after(ReceiveSteps::new, x -> announceMany(x, 15)), "announce", 0, 1);
        Edge.refused(Edge.ROOM, Scene.after(ReceiveSteps::new, x -> announceMany(x, 16)), "announce", 0, 1);
        Edge.refused(Edge.ROOM, Scene::full, "announce", 7, 4);
    }

    private static void announceMany(ReceiveSteps x, int many) {
        for (int k = 0; k < many; k++) {
            x.announce(0, 1);
        }
    }

    /** The lines of one announcement are numbered without regard to those of another. */
    private static void nextLine() {
        ReceiveSteps x = new ReceiveSteps();
        x.announce(0, 4);
        x.announce(0, 4);
        for (int line = 0; line < 4; line++) {
            Check.due("line of the second", x.line(2, 9, 400), line);
            Check.due("line of the first", x.line(1, 0, 0), line);
        }
    }

    private static void hasAllLines() {
        Edge.answered(3, Scene.after(ReceiveSteps::new, x -> tellLines(x, 3)), "line", 1, 0, 0);
        Edge.refused(Edge.NOW, Scene.after(ReceiveSteps::new, x -> tellLines(x, 4)), "line", 1, 0, 0);
        Edge.refused(Edge.NOW, Scene::told, "line", 1, 0, 0);
        Edge.refused(Edge.NOW, Scene::waiting, "line", 1, 0, 0);
        Edge.refused(Edge.NOW, Scene::arrived, "line", 1, 0, 0);
        Edge.refused(Edge.NOW, Scene::closed, "line", 1, 0, 0);
    }

    private static void tellLines(ReceiveSteps x, int many) {
        x.announce(0, 4);
        for (int k = 0; k < many; k++) {
            x.line(1, 0, 0);
        }
    }

    private static void comes() {
        Edge.answered(1, Scene::told, "arrive", 1, 0, 1);
        Edge.answered(2, Scene::told, "arrive", 1, 3, 0);
        Supplier<ReceiveSteps> known = Scene.after(Scene::told, x -> x.arrive(1, 0, true));
        Edge.answered(1, known, "state", 1, 0);
        Edge.answered(0, known, "state", 1, 3);
        Supplier<ReceiveSteps> unknown = Scene.after(Scene::told, x -> x.arrive(1, 3, false));
        Edge.answered(2, unknown, "state", 1, 0);
        Edge.answered(3, unknown, "state", 1, 3);
    }

    private static void notAnnounced() {
        Edge.refused(Edge.NOW, Scene::waiting, "arrive", 1, 0, 1);
        Edge.refused(Edge.NOW, Scene::waiting, "arrive", 1, 1, 1);
        Edge.refused(Edge.NOW, Scene::arrived, "arrive", 1, 0, 0);
        Edge.refused(Edge.NOW, Scene::arrived, "arrive", 1, 1, 0);
        Edge.refused(Edge.NOW, Scene::closed, "arrive", 1, 0, 1);
        Edge.refused(Edge.NOW, Scene::closed, "arrive", 1, 1, 1);
    }

    private static void hasNotAllLines() {
        for (int told = 0; told < 4; told++) {
            int many = told;
            Edge.refused(Edge.NOW, Scene.after(ReceiveSteps::new, x -> tellLines(x, many)), "arrive", 1, 0, 1);
        }
        Edge.answered(1, Scene.after(ReceiveSteps::new, x -> tellLines(x, 4)), "arrive", 1, 0, 1);
        Edge.refused(Edge.NOW, Scene.after(ReceiveSteps::new, x -> x.announce(0, 1)), "arrive", 1, 0, 1);
    }

    private static void another(ReceiveSteps x) {
        x.announce(0, 1);
        x.line(2, 0, 0);
    }

    private static void doorTaken() {
        Edge.refused(Edge.NOW, Scene.after(Scene::waiting, EdgesOfAnnouncingTest::another), "arrive", 2, 1, 1);
        Edge.refused(Edge.NOW, Scene.after(Scene::arrived, EdgesOfAnnouncingTest::another), "arrive", 2, 1, 0);
        Edge.refused(Edge.NOW, Scene.after(() -> {
            ReceiveSteps x = Scene.lineClosed();
            x.close(1, 1);
            return x;
        }, EdgesOfAnnouncingTest::another), "arrive", 2, 1, 1);
        Edge.answered(1, Scene.after(Scene::closed, EdgesOfAnnouncingTest::another), "arrive", 2, 1, 1);
        Edge.answered(1, Scene.after(Scene::told, EdgesOfAnnouncingTest::another), "arrive", 2, 1, 1);
        Edge.answered(1, Scene.after(Scene::arrived, EdgesOfAnnouncingTest::another), "arrive", 2, 0, 1);
        for (int door = 0; door < 4; door++) {
            Edge.refused(Edge.NOW, Scene::full, "arrive", 16, door, 1);
            int freed = door + 1;
            Supplier<ReceiveSteps> oneFree = Scene.after(Scene::full, x -> {
                x.close(freed, 0);
                x.closeAll(freed);
            });
            Edge.answered(2, oneFree, "arrive", 16, door, 0);
            Edge.refused(Edge.NOW, oneFree, "arrive", 16, (door + 1) % 4, 0);
        }
        takenAgain();
    }

    /** One that is CLOSED does not free the door for the one that came there after it. */
    private static void takenAgain() {
        Supplier<ReceiveSteps> second = Scene.after(Scene::closed, x -> {
            another(x);
            x.arrive(2, 1, false);
            x.announce(0, 1);
            x.line(3, 0, 0);
        });
        Edge.refused(Edge.NOW, second, "arrive", 3, 1, 1);
        Edge.answered(1, second, "state", 1, 3);
        Edge.answered(1, second, "state", 2, 3);
    }

    private static void notWaiting() {
        Edge.answered(1, Scene.after(Scene::waiting, x -> x.accept(1, 2)), "state", 1, 0);
        Edge.refused(Edge.NOW, Scene.after(Scene::halfTold, x -> x.right(2, true)), "accept", 1, 2);
        Edge.refused(Edge.NOW, Scene.after(Scene::told, x -> x.right(2, true)), "accept", 1, 2);
        Edge.refused(Edge.NOW, Scene::arrived, "accept", 1, 2);
        Edge.refused(Edge.NOW, Scene.after(Scene::told, x -> {
            x.right(2, true);
            x.arrive(1, 0, true);
        }), "accept", 1, 2);
        Edge.refused(Edge.NOW, Scene::closed, "accept", 1, 2);
    }

    private static void acceptsWithoutRight() {
        for (int person = 0; person < 8; person++) {
            if (person != 2) {
                Edge.refused(Edge.NOW, Scene::waiting, "accept", 1, person);
            }
            int one = person;
            Supplier<ReceiveSteps> allButOne = Scene.after(Scene::waiting, x -> {
                Scene.allMay(x);
                x.right(one, false);
            });
            Edge.refused(Edge.NOW, allButOne, "accept", 1, person);
            Edge.answered(0, allButOne, "accept", 1, (person + 1) % 8);
        }
    }

    private static void mayAccept() {
        for (int person = 0; person < 8; person++) {
            int one = person;
            Supplier<ReceiveSteps> may = Scene.after(Scene::told, x -> {
                x.arrive(1, 0, false);
                x.right(one, true);
            });
            Edge.answered(0, may, "accept", 1, person);
            Edge.answered(0, Scene.after(may, x -> x.right(one, true)), "accept", 1, person);
            Supplier<ReceiveSteps> notAnyMore = Scene.after(may, x -> x.right(one, false));
            Edge.refused(Edge.NOW, notAnyMore, "accept", 1, person);
            Edge.refused(Edge.NOW, Scene.after(notAnyMore, x -> x.right(one, false)), "accept", 1, person);
            Edge.answered(0, Scene.after(notAnyMore, x -> x.right(one, true)), "accept", 1, person);
        }
        Edge.answered(1, Scene.after(Scene::arrived, x -> x.right(2, false)), "state", 1, 0);
    }

    /** The last one that is told holds, before and after it came, and also below what is counted already. */
    private static void tolerance() {
        Edge.answered(45, Scene.after(Scene::told, x -> x.tolerance(1, 1, 50)), "told", 1, 1, 6);
        Edge.answered(120, Scene.after(Scene::told, x -> x.tolerance(1, 1, 50)), "told", 1, 0, 6);
        Supplier<ReceiveSteps> over = Scene.after(Scene::arrived, x -> {
            x.tolerance(1, 0, 50);
            x.count(1, 0, 180, 0, 0);
            x.tolerance(1, 0, 49);
        });
        Edge.answered(178, over, "told", 1, 0, 6);
        Edge.answered(180, over, "told", 1, 0, 2);
        Edge.broken(-4, over, "countPieces", 1, 0, 1, 0, 1);
        Supplier<ReceiveSteps> more = Scene.after(Scene::counted, x -> {
            x.count(1, 0, 61, 0, 0);
            x.tolerance(1, 0, 1);
        });
        Edge.answered(2, more, "countPieces", 1, 0, 61, 0, 0);
    }

    private static void toleranceOfClosed() {
        Edge.refused(Edge.NOW, Scene::lineClosed, "tolerance", 1, 0, 0);
        Edge.refused(Edge.NOW, Scene::lineClosed, "tolerance", 1, 0, 50);
        Edge.refused(Edge.NOW, Scene::closed, "tolerance", 1, 1, 1);
        Edge.answered(0, Scene::lineClosed, "tolerance", 1, 1, 50);
        Edge.answered(0, Scene::halfTold, "tolerance", 1, 0, 50);
        Edge.answered(0, Scene::waiting, "tolerance", 1, 0, 50);
    }

    /** It is the number of all samples: those that were told count, and there are never less than none open. */
    private static void wanted() {
        Edge.answered(5, Scene.after(Scene::halfTold, x -> x.wanted(1, 0, 5)), "told", 1, 0, 4);
        Edge.answered(0, Scene.after(Scene::told, x -> x.wanted(1, 0, 5)), "told", 1, 1, 4);
        Supplier<ReceiveSteps> twoTold = Scene.after(Scene::arrived, x -> {
            x.wanted(1, 0, 3);
            x.sample(1, 0, true);
            x.sample(1, 0, true);
        });
        int[] open = {0, 0, 0, 1, 2, 3};
        for (int samples = 0; samples <= 5; samples++) {
            int wanted = samples;
            Edge.answered(open[samples], Scene.after(twoTold, x -> x.wanted(1, 0, wanted)), "told", 1, 0, 4);
        }
        Edge.refused(Edge.NOW, Scene.after(twoTold, x -> x.wanted(1, 0, 2)), "sample", 1, 0, 0);
        Edge.refused(Edge.NOW, Scene.after(twoTold, x -> x.wanted(1, 0, 0)), "sample", 1, 0, 0);
        Edge.answered(1, Scene.after(twoTold, x -> x.wanted(1, 0, 0)), "close", 1, 0);
    }

    private static void wantedOfClosed() {
        Edge.refused(Edge.NOW, Scene::lineClosed, "wanted", 1, 0, 0);
        Edge.refused(Edge.NOW, Scene::lineClosed, "wanted", 1, 0, 5);
        Edge.refused(Edge.NOW, Scene::closed, "wanted", 1, 1, 1);
        Edge.answered(0, Scene::lineClosed, "wanted", 1, 1, 5);
        Edge.answered(0, Scene::halfTold, "wanted", 1, 0, 5);
        Edge.answered(0, Scene::waiting, "wanted", 1, 0, 5);
    }
}
