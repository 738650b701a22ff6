/** The edges of the line: SECTIONS and ROUTES, WAYS and FOES, the line without some of them, and the full one. */
public final class LineEdgeTest {
    private static final int NONE = Lines.NONE;
    private static final int MOST = Lines.MOST;
    private static final int LEAST = Lines.LEAST;

    private final Checks checks = new Checks("LineEdgeTest");

    public static void main(String[] args) {
        LineEdgeTest test = new LineEdgeTest();
        test.mostSections();
        test.lengthsOfSections();
        test.mostRoutes();
        test.rowsOfRoutes();
        test.firstOfRow();
        test.secondOfRow();
        test.thirdOfRow();
        test.likeSections();
        test.waysOfRoutes();
        test.noFoeOfItself();
        test.foesBySameRow();
        test.foesByOneSection();
        test.foesOfLaterRoutes();
        test.locksAtFirst();
        test.withoutSections();
        test.withoutRoutes();
        test.withOneSection();
        test.withoutTrains();
        test.full();
        test.callsOfOneObject();
        test.objectsApart();
        test.checks.end();
    }

    private void mostSections() {
        checks.sentence(2, "Tells a SECTION.");
        checks.sentence(0, "SECTIONS: at most 8, numbered from 0");
        checks.sentence(2, "Returns its number.");
        checks.sentence(2, "Throws `IllegalStateException` if there are 8");
        Miceline line = new Miceline();
        for (int k = 0; k < 8; k++) {
            checks.due("section " + k, k, line.section(1));
        }
        checks.dueState("a ninth", line, () -> line.section(1));
        checks.dueState("a ninth of 5 tails", line, () -> line.section(5));
        checks.due("how many", 8, line.line(0));
        checks.due("the last is there", 1, line.ofSection(7, 0));
        checks.dueIndex("no ninth is there", line, () -> line.ofSection(8, 0));
    }

    private void lengthsOfSections() {
        checks.sentence(0, "each with a LENGTH (1 to 5 tails)");
        checks.sentence(2, "- `length`: LENGTH");
        checks.sentence(2, "Throws `IllegalArgumentException` if length is not 1 to 5");
        Miceline line = new Miceline();
        checks.dueArgument("section(0)", line, () -> line.section(0));
        checks.dueArgument("section(6)", line, () -> line.section(6));
        checks.dueArgument("section(-1)", line, () -> line.section(-1));
        checks.dueArgument("the least number", line, () -> line.section(LEAST));
        checks.dueArgument("the most number", line, () -> line.section(MOST));
        for (int length = 1; length <= 5; length++) {
            checks.due("the number of one of " + length, length - 1, line.section(length));
        }
        for (int length = 1; length <= 5; length++) {
            checks.due("the length of " + length, length, line.ofSection(length - 1, 0));
        }
        checks.dueArgument("section(6) after others", line, () -> line.section(6));
    }

    private void mostRoutes() {
        checks.sentence(0, "ROUTES: at most 4, numbered from 0");
        checks.sentence(3, "Returns its number.");
        checks.sentence(3, "Throws `IllegalStateException` if there are 4");
        Miceline line = Lines.withSections(1, 1, 1);
        for (int k = 0; k < 4; k++) {
            checks.due("route " + k, k, line.route(0, 1, k % 2 == 0 ? NONE : 2));
        }
        checks.dueState("a fifth of two sections", line, () -> line.route(0, 1, NONE));
        checks.dueState("a fifth of three sections", line, () -> line.route(2, 1, 0));
        checks.due("how many", 4, line.line(1));
        checks.due("the last is there", 7, line.ofRoute(3, 0));
        checks.dueIndex("no fifth is there", line, () -> line.ofRoute(4, 0));
    }

    private void rowsOfRoutes() {
        checks.sentence(0, "each a row of 2 or 3 unlike SECTIONS");
        checks.sentence(3, "- `third`: the third one (NONE without it)");
        Miceline line = Lines.withSections(1, 2, 3);
        line.route(0, 1, NONE);
        line.route(2, 0, NONE);
        line.route(2, 1, 0);
        checks.due("two: the first and the last section", 3, line.ofRoute(0, 0));
        checks.due("two, from the last on", 5, line.ofRoute(1, 0));
        checks.due("three: all", 7, line.ofRoute(2, 0));
        line.train(2, 1, 1);
        line.pull(2);
        line.enter(0);
        checks.due("its first section", "..0", line.sight());
        line.go(0, 3);
        checks.due("its second section", ".0.", line.sight());
        line.go(0, 2);
        checks.due("its third section", "0..", line.sight());
    }

    private void firstOfRow() {
        checks.sentence(3, "- `first`: its first SECTION");
        checks.sentence(3, "Throws `IndexOutOfBoundsException` if one of these is no SECTION");
        Miceline line = Lines.withSections(1, 1, 1);
        checks.dueIndex("-1", line, () -> line.route(-1, 0, 1));
        checks.dueIndex("-1, without a third", line, () -> line.route(-1, 0, NONE));
        checks.dueIndex("3", line, () -> line.route(3, 0, 1));
        checks.dueIndex("the least", line, () -> line.route(LEAST, 0, 1));
        checks.dueIndex("the most", line, () -> line.route(MOST, 0, 1));
        checks.due("0 is let", 0, line.route(0, 1, 2));
        checks.due("2 is let", 1, line.route(2, 1, 0));
    }

    private void secondOfRow() {
        checks.sentence(3, "- `second`: the second one");
        Miceline line = Lines.withSections(1, 1, 1);
        checks.dueIndex("-1", line, () -> line.route(0, -1, 1));
        checks.dueIndex("-1, without a third", line, () -> line.route(0, -1, NONE));
        checks.dueIndex("3", line, () -> line.route(0, 3, 1));
        checks.dueIndex("the least", line, () -> line.route(0, LEAST, 1));
        checks.dueIndex("the most", line, () -> line.route(0, MOST, 1));
        checks.due("0 is let", 0, line.route(1, 0, 2));
        checks.due("2 is let", 1, line.route(1, 2, 0));
    }

    private void thirdOfRow() {
        checks.sentence(3, "(NONE is let for third)");
        Miceline line = Lines.withSections(1, 1, 1);
        checks.dueIndex("-2", line, () -> line.route(0, 1, -2));
        checks.dueIndex("3", line, () -> line.route(0, 1, 3));
        checks.dueIndex("the least", line, () -> line.route(0, 1, LEAST));
        checks.dueIndex("the most", line, () -> line.route(0, 1, MOST));
        checks.due("-1 is let", 0, line.route(0, 1, NONE));
        checks.due("0 is let", 1, line.route(1, 2, 0));
        checks.due("2 is let", 2, line.route(1, 0, 2));
    }

    private void likeSections() {
        checks.sentence(3, "Throws `IllegalArgumentException` if two of them are the same");
        Miceline line = Lines.withSections(1, 1, 1);
        checks.dueArgument("the first and the second", line, () -> line.route(1, 1, 0));
        checks.dueArgument("the first and the third", line, () -> line.route(1, 0, 1));
        checks.dueArgument("the second and the third", line, () -> line.route(0, 1, 1));
        checks.dueArgument("all three", line, () -> line.route(2, 2, 2));
        checks.dueArgument("both, without a third", line, () -> line.route(2, 2, NONE));
        checks.dueArgument("both 0, without a third", line, () -> line.route(0, 0, NONE));
        checks.due("none of them is told", 0, line.line(1));
    }

    private void waysOfRoutes() {
        checks.sentence(0, "its WAY has all their LENGTHS together");
        Miceline line = Lines.withSections(1, 1, 5, 5, 5, 2);
        line.route(0, 1, NONE);
        line.route(2, 3, 4);
        line.route(5, 2, NONE);
        line.route(0, 5, 4);
        checks.due("the shortest", 2, line.ofRoute(0, 1));
        checks.due("the longest", 15, line.ofRoute(1, 1));
        checks.due("2 and 5", 7, line.ofRoute(2, 1));
        checks.due("1, 2 and 5", 8, line.ofRoute(3, 1));
    }

    private void noFoeOfItself() {
        checks.sentence(0, "Two ROUTES (of unlike numbers");
        Miceline line = Lines.alike(1);
        checks.due("alone", 0, line.ofRoute(0, 4));
        checks.due("no pair", 0, line.line(13));
        checks.dueArgument("no lock with itself", line, () -> line.loose(0, 0, true));
        line.pull(0);
        checks.due("nobody holds it", NONE, line.ofRoute(0, 5));
    }

    private void foesBySameRow() {
        checks.sentence(0, "also if their rows are the same) are FOES");
        Miceline line = Lines.alike(2);
        checks.due("the first", 2, line.ofRoute(0, 4));
        checks.due("the second", 1, line.ofRoute(1, 4));
        checks.due("a pair", 1, line.line(13));
        line.route(1, 0, NONE);
        checks.due("a row the other way round", 3, line.ofRoute(2, 4));
        checks.due("three pairs", 3, line.line(13));
        line.route(0, 1, NONE);
        checks.due("the fourth", 7, line.ofRoute(3, 4));
        checks.due("six pairs", 6, line.line(13));
    }

    private void foesByOneSection() {
        checks.sentence(0, "if they have a SECTION in common");
        for (int one = 0; one < 3; one++) {
            for (int other = 0; other < 3; other++) {
                Miceline line = Lines.withSections(1, 1, 1, 1, 1, 1, 1);
                int[] row = {3, 4, 5};
                row[other] = one;
                line.route(0, 1, 2);
                line.route(row[0], row[1], row[2]);
                checks.due("place " + one + " is place " + other, 2, line.ofRoute(0, 4));
                checks.due("place " + other + " is place " + one, 1, line.ofRoute(1, 4));
            }
        }
        Miceline line = Lines.withSections(1, 1, 1, 1, 1, 1, 1);
        line.route(0, 1, 2);
        line.route(3, 4, 5);
        line.route(6, 5, NONE);
        checks.due("none in common", 0, line.ofRoute(0, 4));
        checks.due("a foe of another", 4, line.ofRoute(1, 4));
        checks.due("a foe's foe is none", 2, line.ofRoute(2, 4));
        checks.due("one pair", 1, line.line(13));
    }

    private void foesOfLaterRoutes() {
        checks.sentence(3, "Tells a ROUTE.");
        Miceline line = Lines.alike(1);
        line.pull(0);
        line.route(1, 0, NONE);
        checks.due("it is a foe at once", 1, line.ofRoute(1, 4));
        checks.due("and held at once", 0, line.ofRoute(1, 5));
        checks.due("its lever is back", 0, line.ofRoute(1, 2));
        checks.due("it is refused", 1, line.pull(1));
        line.loose(0, 1, true);
        line.route(0, 1, NONE);
        checks.due("its locks are not loose", 1, line.line(14));
        checks.due("it is held", 0, line.ofRoute(2, 5));
        checks.due("by what was told before", 1, line.pull(2));
    }

    private void locksAtFirst() {
        checks.sentence(0, "Between FOES there is a lock, that can be LOOSE (not at first).");
        Miceline line = Lines.alike(4);
        checks.due("none is loose", 0, line.line(14));
        checks.due("none ever was", 0, line.line(15));
        line.pull(2);
        for (int route = 0; route < 4; route++) {
            checks.due("who holds " + route, route == 2 ? NONE : 2, line.ofRoute(route, 5));
        }
    }

    private void withoutSections() {
        checks.sentence(1, "Creates a line without SECTIONS.");
        Miceline line = new Miceline();
        for (int what = 0; what <= 16; what++) {
            checks.due("line(" + what + ")", 0, line.line(what));
        }
        checks.due("sight()", "", line.sight());
        checks.due("danger(0, 0)", NONE, line.danger(0, 0));
        checks.due("isSound()", true, line.isSound());
        checks.dueArgument("danger(1, 0)", line, () -> line.danger(1, 0));
        checks.dueArgument("danger(0, 1)", line, () -> line.danger(0, 1));
        checks.dueArgument("danger(-1, -1)", line, () -> line.danger(-1, -1));
        checks.dueIndex("route(0, 1, -1)", line, () -> line.route(0, 1, NONE));
        checks.dueIndex("route(0, 0, 0)", line, () -> line.route(0, 0, 0));
        checks.dueIndex("route(-1, -1, -1)", line, () -> line.route(NONE, NONE, NONE));
        noSectionIsThere(line, 0);
        noRouteIsThere(line, 0);
        noTrainIsThere(line, 0);
        checks.due("minutes go by", 99, line.pass(99));
        checks.due("the master wakes", 1, line.knock());
    }

    private void noSectionIsThere(Miceline line, int section) {
        checks.dueIndex("cat", line, () -> line.cat(section, true) ? 1 : 0);
        checks.dueIndex("no cat", line, () -> line.cat(section, false) ? 1 : 0);
        checks.dueIndex("lie of a detector", line, () -> line.lie(false, section, true));
        checks.dueIndex("no lie of a detector", line, () -> line.lie(false, section, false));
        checks.dueIndex("ofSection", line, () -> line.ofSection(section, 0));
    }

    private void noRouteIsThere(Miceline line, int route) {
        checks.dueIndex("pull", line, () -> line.pull(route));
        checks.dueIndex("back", line, () -> line.back(route));
        checks.dueIndex("would, to pull", line, () -> line.would(route, true));
        checks.dueIndex("would, to put back", line, () -> line.would(route, false));
        checks.dueIndex("lie of a counter", line, () -> line.lie(true, route, true));
        checks.dueIndex("no lie of a counter", line, () -> line.lie(true, route, false));
        checks.dueIndex("loose", line, () -> line.loose(route, route, true));
        checks.dueIndex("not loose", line, () -> line.loose(route, route + 1, false));
        checks.dueIndex("train", line, () -> line.train(route, 1, 1));
        checks.dueIndex("ofRoute", line, () -> line.ofRoute(route, 0));
    }

    private void noTrainIsThere(Miceline line, int train) {
        checks.dueIndex("enter", line, () -> line.enter(train));
        checks.dueIndex("go", line, () -> line.go(train, 1));
        checks.dueIndex("ofTrain", line, () -> line.ofTrain(train, 0));
        checks.dueIndex("ahead", line, () -> line.ahead(train, 1));
    }

    private void withoutRoutes() {
        checks.sentence(0, "ROUTES: at most 4, numbered from 0");
        Miceline line = Lines.withSections(1, 2, 3, 4, 5, 1, 2, 3);
        noSectionIsThere(line, 8);
        noRouteIsThere(line, 0);
        noTrainIsThere(line, 0);
        checks.due("the last detector lies", 1, line.lie(false, 7, true));
        checks.due("a cat in the last", false, line.cat(7, true));
        checks.due("no route has it", 0, line.ofSection(7, 5));
        checks.due("no train came", NONE, line.ofSection(7, 6));
        checks.due("no train in it", 0, line.ofSection(7, 1));
        checks.due("sight()", "........", line.sight());
        checks.due("danger of all detectors", NONE, line.danger(255, 0));
        checks.due("danger(0, 0)", NONE, line.danger(0, 0));
        checks.dueArgument("danger of a detector more", line, () -> line.danger(256, 0));
        checks.dueArgument("danger of a counter", line, () -> line.danger(0, 1));
        checks.due("isSound()", true, line.isSound());
    }

    private void withOneSection() {
        checks.sentence(3, "Throws `IndexOutOfBoundsException` if one of these is no SECTION");
        Miceline line = Lines.withSections(5);
        checks.dueArgument("it alone, twice", line, () -> line.route(0, 0, NONE));
        checks.dueArgument("it alone, three times", line, () -> line.route(0, 0, 0));
        checks.dueIndex("it and none", line, () -> line.route(0, NONE, NONE));
        checks.dueIndex("none and it", line, () -> line.route(NONE, 0, NONE));
        checks.dueIndex("it and the next", line, () -> line.route(0, 1, NONE));
        checks.due("danger(1, 0)", NONE, line.danger(1, 0));
        checks.due("sight()", ".", line.sight());
    }

    private void withoutTrains() {
        checks.sentence(0, "TRAINS: at most 10, numbered from 0");
        Miceline line = Lines.alike(2);
        noTrainIsThere(line, 0);
        checks.due("a lever is pulled", 0, line.pull(0));
        checks.due("the foe is held", 1, line.pull(1));
        checks.due("it is put back", 0, line.back(0));
        checks.due("the detector", 0, line.ofSection(0, 2));
        checks.due("the counter", 0, line.ofRoute(0, 7));
        checks.due("how many entered by it", 0, line.ofRoute(0, 6));
        checks.due("sight()", "..", line.sight());
        checks.due("danger of all", 5, line.danger(3, 3));
        checks.due("isSound()", true, line.isSound());
    }

    private void full() {
        checks.sentence(0, "A set is the sum of 2^k for each number k.");
        Miceline line = Lines.full();
        int[] due = {8, 4, 4, 10, 10, 0, 0, 0, 0, 0, 12, 12, 8, 6, 6, 1, 0};
        for (int what = 0; what <= 16; what++) {
            checks.due("line(" + what + ")", due[what], line.line(what));
        }
        checks.due("routes of the section that all have", 15, line.ofSection(2, 5));
        checks.due("routes of the first section", 1, line.ofSection(0, 5));
        checks.due("routes of the last section", 8, line.ofSection(7, 5));
        checks.due("sections of the last route", 196, line.ofRoute(3, 0));
        checks.due("foes of the last route", 7, line.ofRoute(3, 4));
        checks.due("foes of the first route", 14, line.ofRoute(0, 4));
        checks.dueState("a section more", line, () -> line.section(1));
        checks.dueState("a route more", line, () -> line.route(0, 1, NONE));
        checks.dueState("a train more", line, () -> line.train(0, 1, 1));
        noSectionIsThere(line, 8);
        noRouteIsThere(line, 4);
        noTrainIsThere(line, 10);
        checks.due("danger of all", 7, line.danger(255, 15));
        checks.dueArgument("danger of a detector more", line, () -> line.danger(256, 15));
        checks.dueArgument("danger of a counter more", line, () -> line.danger(255, 16));
        fullOfTrains(line);
    }

    private void fullOfTrains(Miceline line) {
        for (int train = 0; train < 4; train++) {
            line.enter(train);
        }
        checks.due("four have entered", "0..12.3.", line.sight());
        for (int train = 0; train < 4; train++) {
            line.go(train, 11);
        }
        checks.due("all in their third, the first two in their second, too", ".!!..2.3", line.sight());
        checks.due("clashes of 1, from its second section on, and of 2 and 3 in their third", 7 + 2 + 2, line.line(9));
        checks.due("isSound()", true, line.isSound());
    }

    /** Two SECTIONS and two ROUTES are told, 253 times two calls follow, and two questions: 512 in all. */
    private void callsOfOneObject() {
        checks.sentence(0, "An object is used for at most 512 calls after it has been made; what later calls answer is "
                + "free.");
        checks.sentence(15, "9 how often its LEVER was tried");
        Miceline line = Lines.alike(2);
        for (int k = 1; k <= 253; k++) {
            checks.due("try " + k, 0, k % 2 == 0 ? line.back(0) : line.pull(0));
            checks.due("knock " + k, k, line.knock());
        }
        checks.due("all tries", 253, line.ofRoute(0, 9));
        checks.due("all knocks", 253, line.line(16));
    }

    private void objectsApart() {
        checks.sentence(1, "`Miceline()`");
        Miceline one = Lines.full();
        Miceline other = new Miceline();
        checks.due("another object has nothing of the first", 0, other.line(0));
        other.section(3);
        checks.due("nor the first of it", 5, one.ofSection(0, 0));
    }
}
