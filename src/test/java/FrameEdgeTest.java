/** The edges of the frame: what LIES, what is LOOSE, CATS, and by which reason, in which order, a LEVER is refused. */
public final class FrameEdgeTest {
    private static final int NONE = Lines.NONE;
    private static final int MOST = Lines.MOST;
    private static final int LEAST = Lines.LEAST;

    private final Checks checks = new Checks("FrameEdgeTest");

    public static void main(String[] args) {
        FrameEdgeTest test = new FrameEdgeTest();
        test.numbers();
        test.leversAtFirst();
        test.nothingLiesAtFirst();
        test.detectorShows();
        test.counterShows();
        test.whatLiesShowsNothing();
        test.pullHeld();
        test.pullHeldBySmallest();
        test.pullHeldButLoose();
        test.pullDetector();
        test.pullDetectorOfFoe();
        test.pullCat();
        test.pullOfTwoReasons();
        test.pullOfThreeReasons();
        test.pulledAndNotUsed();
        test.refusedPullChangesNothing();
        test.pullOfPulled();
        test.backCounter();
        test.backDetector();
        test.backOfTwoReasons();
        test.backOfNoReason();
        test.refusedBackChangesNothing();
        test.backOfBack();
        test.howOftenTried();
        test.tellAndAsk();
        test.checks.end();
    }

    private void tellAndAsk() {
        lieOfWhich();
        howManyLie();
        looseOfWhich();
        looseOfFoes();
        looseWhilePulled();
        howManyLoose();
        cats();
        wouldPull();
        wouldBack();
        wouldOfWhich();
    }

    private void numbers() {
        checks.sentence(4, "- `route`: of which ROUTE");
        checks.sentence(5, "- `route`: of which ROUTE");
        checks.sentence(4, "Throws `IndexOutOfBoundsException` if there is no such ROUTE");
        checks.sentence(5, "Throws `IndexOutOfBoundsException` if there is no such ROUTE");
        Miceline line = Lines.meeting();
        for (int wrong : new int[] {-1, 2, LEAST, MOST}) {
            checks.dueIndex("pull(" + wrong + ")", line, () -> line.pull(wrong));
            checks.dueIndex("back(" + wrong + ")", line, () -> line.back(wrong));
        }
        checks.due("the last one is pulled", 0, line.pull(1));
        checks.due("the last one is put back", 0, line.back(1));
        checks.due("the first one is pulled", 0, line.pull(0));
        checks.due("the first one is put back", 0, line.back(0));
    }

    private void leversAtFirst() {
        checks.sentence(0, "Each ROUTE has a LEVER, BACK at first, and is USED or not (not at first).");
        Miceline line = Lines.meeting();
        for (int route = 0; route < 2; route++) {
            checks.due("pulled", 0, line.ofRoute(route, 2));
            checks.due("used", 0, line.ofRoute(route, 3));
            checks.due("tried", 0, line.ofRoute(route, 9));
        }
        checks.dueState("back", line, () -> line.back(0));
    }

    private void nothingLiesAtFirst() {
        checks.sentence(0, "Each SECTION has a detector, each ROUTE a counter;");
        checks.sentence(0, "each of these LIES or not (not at first)");
        Miceline line = Lines.apart();
        for (int section = 0; section < 4; section++) {
            checks.due("detector " + section, 0, line.ofSection(section, 3));
        }
        for (int route = 0; route < 2; route++) {
            checks.due("counter " + route, 0, line.ofRoute(route, 8));
        }
        checks.due("how many", 0, line.line(10));
        checks.due("how many ever", 0, line.line(11));
    }

    private void detectorShows() {
        checks.sentence(0, "A detector shows FULL, if a train is IN its SECTION, and it does not LIE.");
        Miceline line = Lines.meeting();
        line.train(0, 2, 1);
        line.pull(0);
        dueDetectors("it waits", line, 0, 0, 0);
        line.enter(0);
        dueDetectors("it is in the first", line, 1, 0, 0);
        line.go(0, 2);
        dueDetectors("it is in both", line, 1, 1, 0);
        line.lie(true, 0, true);
        dueDetectors("its counter lies", line, 1, 1, 0);
        line.lie(false, 0, true);
        dueDetectors("the first lies", line, 0, 1, 0);
        line.lie(false, 0, false);
        dueDetectors("it does not any more", line, 1, 1, 0);
        line.go(0, 1);
        dueDetectors("it is in the second", line, 0, 1, 0);
        line.go(0, 1);
        dueDetectors("its last tail", line, 0, 1, 0);
        line.go(0, 1);
        dueDetectors("it has left", line, 0, 0, 0);
        Miceline two = Lines.bothOn();
        two.go(0, 2);
        two.go(1, 2);
        dueDetectors("two in one", two, 0, 1, 0);
        two.go(0, 2);
        dueDetectors("one of them has left", two, 0, 1, 0);
        two.go(1, 2);
        dueDetectors("both have left", two, 0, 0, 0);
    }

    private void dueDetectors(String what, Miceline line, int... due) {
        for (int section = 0; section < due.length; section++) {
            checks.due(what + ", detector " + section, due[section], line.ofSection(section, 2));
        }
    }

    private void counterShows() {
        checks.sentence(0, "A counter shows FULL, if a train that entered by its ROUTE has not left, and it does "
                + "not LIE.");
        Miceline line = Lines.meeting();
        line.train(0, 2, 1);
        line.train(0, 2, 1);
        line.pull(0);
        dueCounters("it waits", line, 0, 0);
        line.enter(0);
        dueCounters("it is on", line, 1, 0);
        line.lie(false, 0, true);
        dueCounters("a detector lies", line, 1, 0);
        line.lie(true, 1, true);
        dueCounters("another counter lies", line, 1, 0);
        line.lie(true, 0, true);
        dueCounters("it lies", line, 0, 0);
        line.back(0);
        line.lie(true, 0, false);
        dueCounters("it lies no more, and its lever is back", line, 1, 0);
        line.lie(true, 0, true);
        line.pull(0);
        line.enter(1);
        line.lie(true, 0, false);
        checks.due("two have entered", 2, line.ofRoute(0, 6));
        line.go(0, 4);
        dueCounters("the last tail of the first, beyond the end", line, 1, 0);
        line.go(0, 1);
        checks.due("one has left", 1, line.ofRoute(0, 6));
        dueCounters("one has left", line, 1, 0);
        line.go(1, 30);
        checks.due("both have left", 0, line.ofRoute(0, 6));
        dueCounters("both have left", line, 0, 0);
    }

    private void dueCounters(String what, Miceline line, int... due) {
        for (int route = 0; route < due.length; route++) {
            checks.due(what + ", counter " + route, due[route], line.ofRoute(route, 7));
        }
    }

    private void whatLiesShowsNothing() {
        checks.sentence(0, "(What LIES shows that nothing is there.)");
        Miceline line = Lines.meeting();
        for (int section = 0; section < 3; section++) {
            line.lie(false, section, true);
        }
        line.lie(true, 0, true);
        line.lie(true, 1, true);
        dueDetectors("nothing is there", line, 0, 0, 0);
        dueCounters("nothing is there", line, 0, 0);
        line.train(0, 3, 1);
        line.pull(0);
        line.enter(0);
        line.go(0, 2);
        dueDetectors("a train is there", line, 0, 0, 0);
        dueCounters("a train is there", line, 0, 0);
        checks.due("in truth", 1, line.ofSection(0, 1));
        checks.due("in truth", 1, line.ofSection(1, 1));
        checks.due("in truth", 1, line.ofRoute(0, 6));
        checks.due("it is seen", "00.", line.sight());
    }

    private void pullHeld() {
        checks.sentence(0, "1, if a LEVER of a FOE is PULLED, and the lock between both is not LOOSE");
        checks.sentence(4, "Returns 0, or why it is refused (1 to 3).");
        Miceline line = Lines.meeting();
        line.section(1);
        line.route(0, 3, NONE);
        checks.due("no foe is pulled", 0, line.would(1, true));
        line.pull(0);
        checks.due("a foe is pulled", 1, line.pull(1));
        checks.due("another foe of it", 1, line.pull(2));
        line.back(0);
        checks.due("the foe is back", 0, line.pull(1));
        checks.due("no foe of the one that is pulled", 0, line.pull(2));
        checks.due("a foe of both", 1, line.pull(0));
        line.back(1);
        checks.due("a foe of the one that is left", 1, line.pull(0));
        line.back(2);
        checks.due("both are back", 0, line.pull(0));
    }

    private void pullHeldBySmallest() {
        checks.sentence(0, "Where one of several is taken and nothing else is said, it is that with the smallest "
                + "number.");
        checks.sentence(0, "(the smallest such ROUTE HOLDS it)");
        Miceline line = Lines.withSections(1, 1, 1, 1, 1, 1);
        line.route(0, 1, NONE);
        line.route(2, 3, NONE);
        line.route(4, 5, NONE);
        line.route(0, 2, 4);
        dueHolder(line, NONE);
        line.pull(2);
        dueHolder(line, 2);
        line.pull(1);
        dueHolder(line, 1);
        line.pull(0);
        dueHolder(line, 0);
        line.back(1);
        dueHolder(line, 0);
        line.loose(0, 3, true);
        dueHolder(line, 2);
        line.pull(1);
        dueHolder(line, 1);
        line.loose(3, 1, true);
        dueHolder(line, 2);
        line.loose(0, 3, false);
        dueHolder(line, 0);
    }

    private void dueHolder(Miceline line, int due) {
        checks.due("who holds 3", due, line.ofRoute(3, 5));
        checks.due("what would answer", due == NONE ? 0 : 1, line.would(3, true));
    }

    private void pullHeldButLoose() {
        checks.sentence(0, "and the lock between both is not LOOSE");
        Miceline line = Lines.alike(3);
        line.pull(0);
        line.loose(1, 2, true);
        checks.due("another lock is loose", 1, line.pull(1));
        line.loose(0, 2, true);
        checks.due("the holder's lock with another is loose", 1, line.pull(1));
        line.loose(0, 1, true);
        checks.due("its lock is loose", 0, line.pull(1));
        line.loose(0, 2, false);
        checks.due("one of two locks is loose", 1, line.pull(2));
        line.loose(0, 2, true);
        line.loose(1, 2, false);
        checks.due("the other of two locks is loose", 1, line.pull(2));
        line.loose(1, 2, true);
        checks.due("both locks are loose", 0, line.pull(2));
    }

    /** A ROUTE of three SECTIONS that is BACK with a train of 1 tail ON, since its counter and detectors lied. */
    private static Miceline letGo() {
        Miceline line = Lines.trainOn(1, 1, 1, 1);
        line.lie(true, 0, true);
        line.lie(false, 0, true);
        line.back(0);
        line.lie(false, 0, false);
        return line;
    }

    private void pullDetector() {
        checks.sentence(0, "2, if the detector of one of its SECTIONS shows FULL");
        Miceline line = letGo();
        checks.due("a train in the first section", 2, line.pull(0));
        line.lie(false, 1, true);
        checks.due("another detector lies", 2, line.pull(0));
        line.go(0, 1);
        checks.due("the second detector lies", 0, line.would(0, true));
        line.lie(false, 1, false);
        checks.due("a train in the second section", 2, line.pull(0));
        line.go(0, 1);
        checks.due("a train in the third section", 2, line.pull(0));
        line.lie(true, 0, false);
        checks.due("the counter does not matter", 2, line.pull(0));
        line.lie(false, 2, true);
        checks.due("the third detector lies, the counter does not", 0, line.pull(0));
        Miceline left = letGo();
        left.go(0, 3);
        checks.due("it has left", 0, left.pull(0));
    }

    private void pullDetectorOfFoe() {
        checks.sentence(0, "2, if the detector of one of its SECTIONS shows FULL");
        Miceline line = Lines.meeting();
        line.loose(0, 1, true);
        line.train(0, 1, 1);
        line.train(1, 1, 1);
        line.pull(0);
        line.enter(0);
        checks.due("a train in a section that it has not", 0, line.would(1, true));
        line.go(0, 2);
        checks.due("a train of a foe", 2, line.pull(1));
        checks.due("nobody holds it", NONE, line.ofRoute(1, 5));
        line.go(0, 2);
        checks.due("the train has left", 0, line.pull(1));
    }

    private void pullCat() {
        checks.sentence(0, "3, if a CAT sits in one.");
        Miceline line = Lines.withSections(1, 1, 1, 1);
        line.route(2, 0, 1);
        for (int section = 0; section < 3; section++) {
            line.cat(section, true);
            checks.due("a cat in section " + section, 3, line.pull(0));
            line.lie(false, section, true);
            checks.due("whose detector lies", 3, line.pull(0));
            line.cat(section, false);
            checks.due("not any more", 0, line.would(0, true));
        }
        line.cat(3, true);
        checks.due("a cat in a section that it has not", 0, line.pull(0));
    }

    private void pullOfTwoReasons() {
        checks.sentence(0, "To PULL a LEVER that is BACK: refused by the first of these that is so");
        Miceline held = Lines.meeting();
        held.train(0, 6, 1);
        held.pull(0);
        held.enter(0);
        held.go(0, 2);
        checks.due("held, and a detector", 1, held.pull(1));
        held.loose(0, 1, true);
        checks.due("the detector alone", 2, held.pull(1));
        Miceline cat = Lines.meeting();
        cat.pull(0);
        cat.cat(1, true);
        checks.due("held, and a cat", 1, cat.pull(1));
        cat.back(0);
        checks.due("the cat alone", 3, cat.pull(1));
        Miceline full = letGo();
        full.cat(0, true);
        checks.due("a detector, and a cat in the same section", 2, full.pull(0));
        full.lie(false, 0, true);
        checks.due("the cat alone", 3, full.pull(0));
        full.cat(0, false);
        full.cat(1, true);
        full.lie(false, 0, false);
        checks.due("a detector, and a cat in another section", 2, full.pull(0));
        full.go(0, 2);
        full.cat(1, false);
        full.cat(0, true);
        checks.due("a detector, and a cat in an earlier section", 2, full.pull(0));
    }

    private void pullOfThreeReasons() {
        checks.sentence(0, "To PULL a LEVER that is BACK: refused by the first of these that is so");
        Miceline line = Lines.meeting();
        line.train(0, 6, 1);
        line.pull(0);
        line.enter(0);
        line.go(0, 2);
        line.cat(2, true);
        checks.due("all three", 1, line.pull(1));
        line.loose(0, 1, true);
        checks.due("a detector and a cat", 2, line.pull(1));
        line.lie(false, 1, true);
        checks.due("a cat", 3, line.pull(1));
        line.cat(2, false);
        checks.due("none", 0, line.pull(1));
    }

    private void pulledAndNotUsed() {
        checks.sentence(4, "PULLS a LEVER.");
        checks.sentence(0, "Otherwise it is PULLED, and not USED (0).");
        Miceline line = Lines.trainOn(1, 1, 1);
        line.go(0, 2);
        line.back(0);
        checks.due("used and back", 1, line.ofRoute(0, 3));
        checks.due("answers", 0, line.pull(0));
        checks.due("pulled", 1, line.ofRoute(0, 2));
        checks.due("not used", 0, line.ofRoute(0, 3));
        line.train(0, 1, 1);
        checks.due("so another may enter", 0, line.enter(1));
        checks.due("used again", 1, line.ofRoute(0, 3));
    }

    private void refusedPullChangesNothing() {
        checks.sentence(0, "To PULL a LEVER that is BACK: refused");
        Miceline line = Lines.trainOn(1, 1, 1);
        line.go(0, 2);
        line.back(0);
        line.cat(0, true);
        checks.due("refused", 3, line.pull(0));
        checks.due("it is back", 0, line.ofRoute(0, 2));
        checks.due("it is used still", 1, line.ofRoute(0, 3));
        checks.due("none is pulled", 0, line.line(2));
        checks.dueState("it can not be put back", line, () -> line.back(0));
    }

    private void pullOfPulled() {
        checks.sentence(4, "Throws `IllegalStateException` if it is PULLED");
        Miceline line = Lines.meeting();
        line.pull(0);
        checks.dueState("pulled", line, () -> line.pull(0));
        line.cat(0, true);
        checks.dueState("pulled, with a cat", line, () -> line.pull(0));
        line.loose(0, 1, true);
        line.pull(1);
        checks.dueState("pulled, with a foe", line, () -> line.pull(0));
        checks.dueState("the foe", line, () -> line.pull(1));
    }

    private void backCounter() {
        checks.sentence(0, "To put BACK a LEVER that is PULLED: refused by the first of these that is so: 1, if its "
                + "counter shows FULL");
        checks.sentence(5, "Returns 0, or why it is refused (1 or 2).");
        Miceline line = Lines.trainOn(3, 2, 2);
        line.lie(false, 0, true);
        line.lie(false, 1, true);
        checks.due("the counter alone", 1, line.back(0));
        line.go(0, 4);
        checks.due("nose beyond the end", 1, line.back(0));
        line.go(0, 1);
        checks.due("the last tail", 1, line.back(0));
        line.go(0, 1);
        checks.due("it has left", 0, line.back(0));
        Miceline foe = Lines.bothOn();
        foe.go(0, 4);
        checks.due("another counter", 0, foe.back(0));
        checks.due("it itself", 1, foe.back(1));
    }

    private void backDetector() {
        checks.sentence(0, "2, if the detector of one of its SECTIONS does.");
        Miceline line = Lines.trainOn(1, 1, 1, 1);
        line.lie(true, 0, true);
        checks.due("the first section", 2, line.back(0));
        line.go(0, 1);
        checks.due("the second section", 2, line.back(0));
        line.go(0, 1);
        checks.due("the third section", 2, line.back(0));
        line.lie(false, 0, true);
        line.lie(false, 1, true);
        checks.due("the other detectors lie", 2, line.back(0));
        line.lie(false, 2, true);
        checks.due("it lies, too", 0, line.back(0));
        Miceline foe = Lines.bothOn();
        foe.go(1, 2);
        foe.go(0, 4);
        checks.due("a train of a foe", 2, foe.back(0));
        foe.go(1, 2);
        checks.due("it has left, too", 0, foe.back(0));
    }

    private void backOfTwoReasons() {
        checks.sentence(0, "To put BACK a LEVER that is PULLED: refused by the first of these that is so");
        Miceline line = Lines.trainOn(1, 1, 1);
        checks.due("counter and detector", 1, line.back(0));
        line.lie(true, 0, true);
        checks.due("detector", 2, line.back(0));
        line.lie(true, 0, false);
        line.lie(false, 0, true);
        checks.due("counter", 1, line.back(0));
        line.lie(true, 0, true);
        checks.due("none", 0, line.back(0));
    }

    private void backOfNoReason() {
        checks.sentence(0, "Otherwise it is BACK (0; USED stays as it is).");
        Miceline line = Lines.alike(2);
        line.loose(0, 1, true);
        line.pull(0);
        line.pull(1);
        line.cat(0, true);
        line.train(0, 1, 1);
        checks.due("a cat, a foe that is pulled, and a train that waits", 0, line.back(0));
        checks.due("it is back", 0, line.ofRoute(0, 2));
        checks.due("it is not used", 0, line.ofRoute(0, 3));
        checks.due("the other is pulled", 1, line.ofRoute(1, 2));
        Miceline used = Lines.trainOn(1, 1, 1);
        used.go(0, 2);
        checks.due("its train has left", 0, used.back(0));
        checks.due("it is back", 0, used.ofRoute(0, 2));
        checks.due("it is used", 1, used.ofRoute(0, 3));
    }

    private void refusedBackChangesNothing() {
        checks.sentence(5, "Puts a LEVER BACK.");
        Miceline line = Lines.trainOn(1, 1, 1);
        checks.due("refused", 1, line.back(0));
        checks.due("it is pulled", 1, line.ofRoute(0, 2));
        checks.due("it is used", 1, line.ofRoute(0, 3));
        checks.dueState("it can not be pulled", line, () -> line.pull(0));
    }

    private void backOfBack() {
        checks.sentence(5, "Throws `IllegalStateException` if it is BACK");
        Miceline line = letGo();
        checks.dueState("with a train on", line, () -> line.back(0));
        line.go(0, 3);
        checks.dueState("without", line, () -> line.back(0));
        line.pull(0);
        checks.due("pulled", 0, line.back(0));
        checks.dueState("back again", line, () -> line.back(0));
    }

    private void howOftenTried() {
        checks.sentence(0, "of each ROUTE how often its LEVER was tried (pulled or put back, also if that was "
                + "refused)");
        Miceline line = Lines.meeting();
        line.train(0, 1, 1);
        line.pull(0);
        dueTries("pulled", line, 1, 0);
        line.pull(1);
        dueTries("a pull is refused", line, 1, 1);
        line.enter(0);
        line.back(0);
        dueTries("a back is refused by the counter", line, 2, 1);
        line.lie(true, 0, true);
        line.back(0);
        dueTries("a back is refused by a detector", line, 3, 1);
        line.go(0, 30);
        line.back(0);
        dueTries("put back", line, 4, 1);
        checks.dueState("back", line, () -> line.back(0));
        dueTries("what throws is no try", line, 4, 1);
        line.cat(0, true);
        line.pull(0);
        dueTries("a pull is refused by a cat", line, 5, 1);
        line.pull(1);
        checks.dueState("pulled", line, () -> line.pull(1));
        line.would(0, true);
        line.would(1, false);
        dueTries("what would be is no try", line, 5, 2);
    }

    private void dueTries(String what, Miceline line, int first, int second) {
        checks.due(what + ", tries of 0", first, line.ofRoute(0, 9));
        checks.due(what + ", tries of 1", second, line.ofRoute(1, 9));
    }

    private void lieOfWhich() {
        checks.sentence(6, "- `isCounter`: whether the counter of a ROUTE, otherwise the detector of a SECTION");
        checks.sentence(6, "- `which`: which one");
        checks.sentence(6, "Throws `IndexOutOfBoundsException` if there is no such ROUTE, or SECTION");
        Miceline line = Lines.meeting();
        for (int wrong : new int[] {-1, 3, LEAST, MOST}) {
            checks.dueIndex("detector " + wrong, line, () -> line.lie(false, wrong, true));
            checks.dueIndex("detector " + wrong + " not any more", line, () -> line.lie(false, wrong, false));
        }
        for (int wrong : new int[] {-1, 2, LEAST, MOST}) {
            checks.dueIndex("counter " + wrong, line, () -> line.lie(true, wrong, true));
            checks.dueIndex("counter " + wrong + " not any more", line, () -> line.lie(true, wrong, false));
        }
        checks.due("the last detector", 1, line.lie(false, 2, true));
        checks.due("it lies", 1, line.ofSection(2, 3));
        checks.due("the last counter", 2, line.lie(true, 1, true));
        checks.due("it lies", 1, line.ofRoute(1, 8));
        checks.due("the first detector", 3, line.lie(false, 0, true));
        checks.due("the first counter", 4, line.lie(true, 0, true));
        checks.due("the detector between does not", 0, line.ofSection(1, 3));
        Miceline more = Lines.alike(4);
        checks.due("a counter whose number no section has", 1, more.lie(true, 3, true));
        checks.dueIndex("a detector of that number", more, () -> more.lie(false, 2, true));
    }

    private void howManyLie() {
        checks.sentence(6, "Something LIES, or not any more.");
        checks.sentence(6, "- `is`: whether it LIES from now on");
        checks.sentence(6, "Returns how many LIE then.");
        checks.sentence(17, "10 how many LIE, 11 how many LIED at once at most");
        Miceline line = Lines.meeting();
        dueLies(line, 0, line.lie(false, 1, false), 0);
        dueLies(line, 1, line.lie(false, 1, true), 1);
        dueLies(line, 1, line.lie(false, 1, true), 1);
        dueLies(line, 2, line.lie(true, 1, true), 2);
        dueLies(line, 1, line.lie(false, 1, false), 2);
        dueLies(line, 1, line.lie(false, 1, false), 2);
        dueLies(line, 2, line.lie(false, 0, true), 2);
        dueLies(line, 3, line.lie(true, 0, true), 3);
        dueLies(line, 2, line.lie(true, 1, false), 3);
        dueLies(line, 1, line.lie(true, 0, false), 3);
        dueLies(line, 0, line.lie(false, 0, false), 3);
        Miceline one = Lines.meeting();
        one.lie(false, 0, true);
        one.lie(false, 0, false);
        one.lie(true, 0, true);
        checks.due("one after the other", 1, one.line(11));
        checks.due("all that there are", 12, Lines.full().line(10));
    }

    private void dueLies(Miceline line, int due, int answer, int most) {
        checks.due("lie() answers", due, answer);
        checks.due("how many lie", due, line.line(10));
        checks.due("how many lied at once at most", most, line.line(11));
    }

    private void looseOfWhich() {
        checks.sentence(7, "- `one`: a ROUTE");
        checks.sentence(7, "- `other`: another one");
        checks.sentence(7, "Throws `IndexOutOfBoundsException` if there is no such ROUTE as one of both");
        Miceline line = Lines.alike(3);
        for (int wrong : new int[] {-1, 3, LEAST, MOST}) {
            checks.dueIndex("loose(" + wrong + ", 0)", line, () -> line.loose(wrong, 0, true));
            checks.dueIndex("loose(0, " + wrong + ")", line, () -> line.loose(0, wrong, true));
            checks.dueIndex("loose(2, " + wrong + ")", line, () -> line.loose(2, wrong, false));
            checks.dueIndex("both are " + wrong, line, () -> line.loose(wrong, wrong, true));
        }
        checks.dueIndex("both are none", line, () -> line.loose(-1, 3, true));
        checks.due("the first and the last", 1, line.loose(0, 2, true));
        checks.due("the last and the first", 0, line.loose(2, 0, false));
    }

    private void looseOfFoes() {
        checks.sentence(7, "Throws `IllegalArgumentException` if they are not FOES");
        Miceline line = Lines.meeting();
        line.section(1);
        line.route(0, 3, NONE);
        checks.dueArgument("itself", line, () -> line.loose(0, 0, true));
        checks.dueArgument("itself, not loose", line, () -> line.loose(2, 2, false));
        checks.dueArgument("no foes", line, () -> line.loose(1, 2, true));
        checks.dueArgument("no foes, the other way", line, () -> line.loose(2, 1, true));
        checks.dueArgument("no foes, not loose", line, () -> line.loose(1, 2, false));
        checks.due("foes", 1, line.loose(0, 2, true));
        checks.due("foes", 2, line.loose(1, 0, true));
        line.pull(1);
        line.pull(2);
        checks.dueArgument("no foes, both pulled, not loose", line, () -> line.loose(1, 2, false));
        checks.dueArgument("itself, pulled, not loose", line, () -> line.loose(1, 1, false));
    }

    private void looseWhilePulled() {
        checks.sentence(7, "Throws `IllegalStateException` if it is to be not LOOSE any more, and both LEVERS are "
                + "PULLED");
        Miceline line = Lines.alike(3);
        Lines.setAllLoose(line, 3);
        line.pull(0);
        checks.due("the first is pulled", 2, line.loose(0, 1, false));
        checks.due("the first is pulled, loose", 3, line.loose(0, 1, true));
        checks.due("the second is pulled", 2, line.loose(1, 0, false));
        checks.due("the second is pulled, loose", 3, line.loose(1, 0, true));
        line.pull(1);
        checks.dueState("both are pulled", line, () -> line.loose(0, 1, false));
        checks.dueState("both are pulled, the other way", line, () -> line.loose(1, 0, false));
        checks.due("both are pulled, loose again", 3, line.loose(0, 1, true));
        checks.due("another pair, of which one is pulled", 2, line.loose(0, 2, false));
        checks.due("another pair, loose", 3, line.loose(2, 0, true));
        line.back(0);
        checks.due("one is back", 2, line.loose(0, 1, false));
    }

    private void howManyLoose() {
        checks.sentence(7, "The lock between two FOES is LOOSE, or not any more.");
        checks.sentence(7, "- `is`: whether it is LOOSE from now on");
        checks.sentence(7, "Returns how many are LOOSE then.");
        checks.sentence(17, "14 LOOSE locks, 15 1 if a lock ever was LOOSE, otherwise 0");
        Miceline line = Lines.alike(4);
        dueLoose(line, 0, line.loose(0, 1, false), 0);
        dueLoose(line, 1, line.loose(0, 1, true), 1);
        dueLoose(line, 1, line.loose(0, 1, true), 1);
        dueLoose(line, 1, line.loose(1, 0, true), 1);
        dueLoose(line, 0, line.loose(1, 0, false), 1);
        dueLoose(line, 0, line.loose(1, 0, false), 1);
        int count = 0;
        for (int one = 0; one < 4; one++) {
            for (int other = one + 1; other < 4; other++) {
                count++;
                dueLoose(line, count, line.loose(other, one, true), 1);
            }
        }
        checks.due("all of them", 6, line.line(14));
    }

    private void dueLoose(Miceline line, int due, int answer, int ever) {
        checks.due("loose() answers", due, answer);
        checks.due("how many are loose", due, line.line(14));
        checks.due("whether one ever was", ever, line.line(15));
    }

    private void cats() {
        checks.sentence(8, "A CAT sits in a SECTION, or not any more.");
        checks.sentence(8, "- `section`: the SECTION");
        checks.sentence(8, "- `is`: whether it sits there from now on");
        checks.sentence(8, "Returns whether it did.");
        checks.sentence(8, "Throws `IndexOutOfBoundsException` if there is no such SECTION");
        Miceline line = Lines.withSections(1, 1, 1);
        for (int wrong : new int[] {-1, 3, LEAST, MOST}) {
            checks.dueIndex("cat(" + wrong + ", true)", line, () -> line.cat(wrong, true) ? 1 : 0);
            checks.dueIndex("cat(" + wrong + ", false)", line, () -> line.cat(wrong, false) ? 1 : 0);
        }
        checks.due("none sat in the first", false, line.cat(0, false));
        checks.due("none sits there now", false, line.cat(0, true));
        checks.due("one sits there now", true, line.cat(0, true));
        checks.due("none sat in the last", false, line.cat(2, true));
        checks.due("two", 2, line.line(12));
        checks.due("one sat there, not any more", true, line.cat(0, false));
        checks.due("none sat there, not any more", false, line.cat(0, false));
        checks.due("one", 1, line.line(12));
        checks.due("in the last", 1, line.ofSection(2, 4));
        checks.due("not in the first", 0, line.ofSection(0, 4));
    }

    private void wouldPull() {
        checks.sentence(19, "- `isPull`: whether it is to be PULLED, otherwise put BACK");
        checks.sentence(19, "Returns what that would return; NONE, if it would be refused by an exception.");
        Miceline line = Lines.meeting();
        line.train(0, 6, 1);
        checks.due("none", 0, line.would(0, true));
        line.cat(0, true);
        checks.due("a cat", 3, line.would(0, true));
        line.cat(0, false);
        line.pull(0);
        checks.due("it is pulled", NONE, line.would(0, true));
        checks.due("it is held", 1, line.would(1, true));
        line.enter(0);
        line.go(0, 2);
        line.cat(1, true);
        checks.due("it is pulled, with a train and a cat", NONE, line.would(0, true));
        line.loose(0, 1, true);
        checks.due("a detector", 2, line.would(1, true));
        line.lie(false, 1, true);
        checks.due("a cat", 3, line.would(1, true));
    }

    private void wouldBack() {
        checks.sentence(19, "NONE, if it would be refused by an exception.");
        checks.sentence(19, "---- what would be (nothing is changed)");
        Miceline line = Lines.trainOn(1, 1, 1);
        String before = Checks.picture(line);
        checks.due("the counter", 1, line.would(0, false));
        checks.due("nothing is changed", before, Checks.picture(line));
        line.lie(true, 0, true);
        checks.due("a detector", 2, line.would(0, false));
        line.go(0, 2);
        before = Checks.picture(line);
        checks.due("none", 0, line.would(0, false));
        checks.due("nothing is changed", before, Checks.picture(line));
        line.back(0);
        checks.due("it is back", NONE, line.would(0, false));
        before = Checks.picture(line);
        checks.due("none to pull", 0, line.would(0, true));
        checks.due("nothing is changed", before, Checks.picture(line));
    }

    private void wouldOfWhich() {
        checks.sentence(19, "- `route`: a ROUTE");
        checks.sentence(19, "Throws `IndexOutOfBoundsException` if there is no such ROUTE");
        Miceline line = Lines.meeting();
        for (int wrong : new int[] {-1, 2, LEAST, MOST}) {
            checks.dueIndex("would(" + wrong + ", true)", line, () -> line.would(wrong, true));
            checks.dueIndex("would(" + wrong + ", false)", line, () -> line.would(wrong, false));
        }
        checks.due("the last", 0, line.would(1, true));
        checks.due("the last", NONE, line.would(1, false));
    }
}
