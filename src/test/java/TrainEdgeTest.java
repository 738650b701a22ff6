/** The edges of trains: how many, how long, when they ENTER, where they are, when they have LEFT, CLASHES, minutes. */
public final class TrainEdgeTest {
    private static final int NONE = Lines.NONE;
    private static final int MOST = Lines.MOST;
    private static final int LEAST = Lines.LEAST;

    private final Checks checks = new Checks("TrainEdgeTest");

    public static void main(String[] args) {
        TrainEdgeTest test = new TrainEdgeTest();
        test.mostTrains();
        test.mostTrainsThoughTheyLeft();
        test.routesOfTrains();
        test.lengthsOfTrains();
        test.tastes();
        test.waitsAtFirst();
        test.entersWhich();
        test.entersIfItWaits();
        test.entersIfPulled();
        test.entersIfNotUsed();
        test.entering();
        test.pay();
        test.payOfMostMinutes();
        test.noses();
        test.beyondTheEnd();
        test.covers();
        test.leaves();
        test.going();
        test.timeAndAhead();
        test.checks.end();
    }

    private void going() {
        goesWhich();
        goesTails();
        goesIfOn();
        stopsAsItHasLeft();
        clashOfEntering();
        clashOfEachTail();
        clashOnce();
        clashOfThree();
        clashWithOneThatIsOn();
        clashAtTheEnd();
        lastTrain();
        lastTrainOfMany();
    }

    private void timeAndAhead() {
        minutes();
        minutesUpTo9999();
        knocks();
        aheadOfWhich();
        aheadTails();
        aheadIfOn();
        aheadChangesNothing();
    }

    private void mostTrains() {
        checks.sentence(0, "TRAINS: at most 10, numbered from 0");
        checks.sentence(9, "Returns its number.");
        checks.sentence(9, "Throws `IllegalStateException` if there are 10");
        Miceline line = Lines.meeting();
        for (int k = 0; k < 10; k++) {
            checks.due("train " + k, k, line.train(k % 2, 1, 1));
        }
        checks.dueState("an eleventh", line, () -> line.train(0, 1, 1));
        checks.dueState("an eleventh on the other route", line, () -> line.train(1, 6, 5));
        checks.due("how many", 10, line.line(3));
        checks.due("the last", 1, line.ofTrain(9, 0));
        checks.dueIndex("no eleventh is there", line, () -> line.ofTrain(10, 0));
    }

    private void mostTrainsThoughTheyLeft() {
        checks.sentence(9, "Throws `IllegalStateException` if there are 10");
        Miceline line = Lines.alike(1);
        for (int k = 0; k < 10; k++) {
            line.train(0, 1, 1);
            line.pull(0);
            line.enter(k);
            line.go(k, 30);
            line.back(0);
        }
        checks.due("all have left", 10, line.line(6));
        checks.dueState("an eleventh", line, () -> line.train(0, 1, 1));
    }

    private void routesOfTrains() {
        checks.sentence(9, "- `route`: its ROUTE");
        checks.sentence(9, "Throws `IndexOutOfBoundsException` if there is no such ROUTE");
        Miceline line = Lines.meeting();
        for (int wrong : new int[] {-1, 2, LEAST, MOST}) {
            checks.dueIndex("train(" + wrong + ", 1, 1)", line, () -> line.train(wrong, 1, 1));
        }
        checks.due("the first route", 0, line.train(0, 1, 1));
        checks.due("the last route", 1, line.train(1, 1, 1));
        checks.due("its route", 0, line.ofTrain(0, 0));
        checks.due("its route", 1, line.ofTrain(1, 0));
    }

    private void lengthsOfTrains() {
        checks.sentence(9, "- `length`: LENGTH");
        checks.sentence(0, "each with a ROUTE, a LENGTH (1 to 6 tails)");
        checks.sentence(9, "Throws `IllegalArgumentException` if length is not 1 to 6, or taste not 1 to 5");
        Miceline line = Lines.meeting();
        for (int wrong : new int[] {0, 7, -1, LEAST, MOST}) {
            checks.dueArgument("train(0, " + wrong + ", 1)", line, () -> line.train(0, wrong, 1));
            checks.dueArgument("train(0, " + wrong + ", 5)", line, () -> line.train(0, wrong, 5));
        }
        for (int length = 1; length <= 6; length++) {
            checks.due("one of " + length, length - 1, line.train(0, length, 1));
            checks.due("its length", length, line.ofTrain(length - 1, 1));
        }
    }

    private void tastes() {
        checks.sentence(9, "- `taste`: TASTE");
        checks.sentence(0, "and a TASTE (1 to 5)");
        checks.sentence(9, "Throws `IllegalArgumentException` if length is not 1 to 6, or taste not 1 to 5");
        Miceline line = Lines.meeting();
        for (int wrong : new int[] {0, 6, -1, LEAST, MOST}) {
            checks.dueArgument("train(0, 1, " + wrong + ")", line, () -> line.train(0, 1, wrong));
            checks.dueArgument("train(0, 6, " + wrong + ")", line, () -> line.train(0, 6, wrong));
        }
        for (int taste = 1; taste <= 5; taste++) {
            checks.due("one of " + taste, taste - 1, line.train(0, 1, taste));
            checks.due("its taste", taste, line.ofTrain(taste - 1, 2));
        }
        checks.dueArgument("both are wrong", line, () -> line.train(0, 0, 0));
        checks.dueArgument("both are wrong", line, () -> line.train(0, 7, 6));
    }

    private void waitsAtFirst() {
        checks.sentence(9, "A train comes, and WAITS.");
        checks.sentence(0, "it WAITS at first, since the MINUTE at which it came.");
        Miceline line = Lines.alike(1);
        line.pass(90);
        line.train(0, 6, 5);
        checks.due("it waits", 0, line.ofTrain(0, 3));
        checks.due("without a nose", NONE, line.ofTrain(0, 4));
        checks.due("in no section", 0, line.ofTrain(0, 5));
        checks.due("for no minute yet", 0, line.ofTrain(0, 6));
        checks.due("sight()", "..", line.sight());
        line.pass(1);
        checks.due("for a minute", 5, line.ofTrain(0, 6));
        checks.due("nothing was paid", 0, line.line(8));
    }

    private void entersWhich() {
        checks.sentence(10, "- `train`: the train");
        checks.sentence(10, "Throws `IndexOutOfBoundsException` if there is no such train");
        Miceline line = Lines.alike(1);
        line.train(0, 1, 1);
        line.pull(0);
        for (int wrong : new int[] {-1, 1, LEAST, MOST}) {
            checks.dueIndex("enter(" + wrong + ")", line, () -> line.enter(wrong));
        }
        checks.due("the only one", 0, line.enter(0));
    }

    private void entersIfItWaits() {
        checks.sentence(10, "Throws `IllegalStateException` if it does not WAIT, or can not ENTER");
        Miceline line = Lines.trainOn(1, 1, 1);
        line.lie(true, 0, true);
        line.lie(false, 0, true);
        line.back(0);
        line.pull(0);
        checks.dueState("it is on, and another could", line, () -> line.enter(0));
        line.go(0, 2);
        checks.dueState("it has left, and another could", line, () -> line.enter(0));
        line.train(0, 1, 1);
        checks.due("another can", 0, line.enter(1));
        checks.dueState("it is on, and none could", line, () -> line.enter(1));
        checks.dueState("it has left, and none could", line, () -> line.enter(0));
    }

    private void entersIfPulled() {
        checks.sentence(0, "It can ENTER, if the LEVER of its ROUTE is PULLED, and that is not USED");
        Miceline line = Lines.apart();
        line.train(0, 1, 1);
        line.train(1, 1, 1);
        checks.dueState("back, and not used", line, () -> line.enter(0));
        line.pull(1);
        checks.dueState("another lever", line, () -> line.enter(0));
        line.pull(0);
        line.back(0);
        checks.dueState("back again", line, () -> line.enter(0));
        line.pull(0);
        checks.due("pulled", 0, line.enter(0));
        checks.due("the other", 0, line.enter(1));
    }

    private void entersIfNotUsed() {
        checks.sentence(0, "and that is not USED: it is USED then");
        Miceline line = Lines.alike(1);
        for (int k = 0; k < 3; k++) {
            line.train(0, 1, 1);
        }
        line.pull(0);
        checks.due("not used", 0, line.ofRoute(0, 3));
        line.enter(1);
        checks.due("used", 1, line.ofRoute(0, 3));
        checks.dueState("used, with a train on", line, () -> line.enter(0));
        line.go(1, 2);
        checks.due("used still", 1, line.ofRoute(0, 3));
        checks.dueState("used, its train has left", line, () -> line.enter(0));
        line.back(0);
        checks.dueState("used, and back", line, () -> line.enter(0));
        line.pull(0);
        checks.due("pulled anew", 0, line.enter(2));
        line.go(2, 2);
        checks.dueState("used anew", line, () -> line.enter(0));
    }

    private void entering() {
        checks.sentence(0, "the train is ON with NOSE at 1");
        checks.sentence(10, "A train ENTERS.");
        Miceline line = Lines.withSections(1, 2, 3);
        line.route(2, 1, 0);
        line.train(0, 6, 1);
        line.train(0, 6, 1);
        line.pull(0);
        line.cat(2, true);
        line.enter(1);
        checks.due("it is on", 1, line.ofTrain(1, 3));
        checks.due("its nose", 1, line.ofTrain(1, 4));
        checks.due("its sections", 4, line.ofTrain(1, 5));
        checks.due("it came to be in the first", 1, line.ofSection(2, 6));
        checks.due("not in the second", NONE, line.ofSection(1, 6));
        checks.due("sight()", "..1", line.sight());
        checks.due("the other waits", 0, line.ofTrain(0, 3));
        checks.due("one is on", 1, line.line(5));
        checks.due("one waits", 1, line.line(4));
        checks.due("none has left", 0, line.line(6));
    }

    private void pay() {
        checks.sentence(0, "and is paid TASTE pieces of cheese for each minute that it WAITED.");
        checks.sentence(10, "Returns how much cheese it is paid.");
        Miceline line = Lines.apart();
        line.pass(10);
        line.train(0, 1, 5);
        line.pass(1);
        line.train(1, 1, 3);
        line.pull(0);
        line.pull(1);
        checks.due("no minute", 0, line.enter(1));
        checks.due("nothing was paid", 0, line.line(8));
        line.pass(2);
        checks.due("it would be paid", 15, line.ofTrain(0, 6));
        checks.due("3 minutes", 15, line.enter(0));
        checks.due("that was paid", 15, line.line(8));
        line.pass(50);
        checks.due("it stays", 15, line.ofTrain(0, 6));
        checks.due("nothing stays nothing", 0, line.ofTrain(1, 6));
        line.go(0, 30);
        line.go(1, 30);
        checks.due("it stays as it has left", 15, line.ofTrain(0, 6));
        checks.due("that was paid", 15, line.line(8));
    }

    private void payOfMostMinutes() {
        checks.sentence(0, "MINUTE is 0 at first, 9999 at most.");
        Miceline line = Lines.apart();
        line.train(0, 1, 5);
        line.train(1, 1, 1);
        Lines.passUpTo(line, 0);
        line.pull(0);
        line.pull(1);
        checks.due("it would be paid", 49995, line.ofTrain(0, 6));
        checks.due("for 9999 minutes, of taste 5", 49995, line.enter(0));
        checks.due("for 9999 minutes, of taste 1", 9999, line.enter(1));
        checks.due("both", 59994, line.line(8));
    }

    private void noses() {
        checks.sentence(0, "A train on a ROUTE has its NOSE at a tail of its WAY (1 and more");
        Miceline line = Lines.trainOn(1, 2, 1);
        checks.due("at first", 1, line.ofTrain(0, 4));
        checks.due("one more", 2, line.go(0, 1));
        checks.due("in the first section", "0.", line.sight());
        checks.due("at the end", 3, line.go(0, 1));
        checks.due("in the second section", ".0", line.sight());
        checks.due("a train of one tail is never beyond it", NONE, line.go(0, 1));
        checks.due("no nose", NONE, line.ofTrain(0, 4));
    }

    private void beyondTheEnd() {
        checks.sentence(0, "it may be beyond the end)");
        Miceline line = Lines.trainOn(6, 1, 1);
        int[] in = {1, 3, 3, 3, 3, 3, 2, 0};
        for (int nose = 1; nose <= 7; nose++) {
            checks.due("its nose", nose, line.ofTrain(0, 4));
            checks.due("its sections at " + nose, in[nose - 1], line.ofTrain(0, 5));
            checks.due("what comes then", nose == 7 ? NONE : nose + 1, line.go(0, 1));
        }
        checks.due("it has left", 2, line.ofTrain(0, 3));
        Miceline longest = Lines.trainOn(6, 5, 5, 5);
        checks.due("to the furthest", 20, longest.go(0, 19));
        checks.due("its last tail is at the end", 4, longest.ofTrain(0, 5));
        checks.due("it leaves", NONE, longest.go(0, 1));
    }

    private void covers() {
        checks.sentence(0, "and covers as many tails as its LENGTH, from NOSE back (those below 1, and beyond the "
                + "end, are elsewhere).");
        checks.sentence(0, "It is IN a SECTION, if it covers some tail of it.");
        dueCover(1, 1, 1, 2, 2, 2, 4);
        dueCover(2, 1, 1, 3, 2, 2, 6, 4);
        dueCover(3, 1, 1, 3, 3, 2, 6, 6, 4);
        dueCover(4, 1, 1, 3, 3, 3, 6, 6, 6, 4);
        dueCover(5, 1, 1, 3, 3, 3, 7, 6, 6, 6, 4);
        dueCover(6, 1, 1, 3, 3, 3, 7, 7, 6, 6, 6, 4);
    }

    /** The sets of SECTIONS in which a train of this LENGTH is on a ROUTE of 2, 3 and 1 tails, NOSE by NOSE. */
    private void dueCover(int length, int... due) {
        Miceline line = Lines.trainOn(length, 2, 3, 1);
        for (int k = 0; k < due.length; k++) {
            String what = "length " + length + ", nose " + (k + 1);
            checks.due(what, due[k], line.ofTrain(0, 5));
            checks.due(what + ", as it goes on", k + 1 == due.length ? NONE : k + 2, line.go(0, 1));
            for (int section = 0; section < 3; section++) {
                int in = k + 1 < due.length ? due[k + 1] >> section & 1 : 0;
                checks.due(what + " and one more, in " + section, in, line.ofSection(section, 1));
            }
        }
        checks.due("length " + length + " has left", 2, line.ofTrain(0, 3));
    }

    private void leaves() {
        checks.sentence(0, "A train that is ON goes tail by tail: NOSE is 1 more.");
        checks.sentence(0, "It has LEFT, as it covers no tail of its WAY any more.");
        Miceline line = Lines.trainOn(2, 1, 1);
        line.go(0, 2);
        checks.due("its last tail is on it", 1, line.ofTrain(0, 3));
        checks.due("its nose is beyond", 3, line.ofTrain(0, 4));
        checks.due("one is on", 1, line.line(5));
        line.go(0, 1);
        checks.due("it has left", 2, line.ofTrain(0, 3));
        checks.due("none is on", 0, line.line(5));
        checks.due("one has left", 1, line.line(6));
        checks.due("none has not", 0, line.ofRoute(0, 6));
        checks.due("no nose", NONE, line.ofTrain(0, 4));
        checks.due("no section", 0, line.ofTrain(0, 5));
        checks.due("it was there", 0, line.ofSection(0, 6));
        checks.due("its length stays", 2, line.ofTrain(0, 1));
    }

    private void goesWhich() {
        checks.sentence(11, "- `train`: the train");
        checks.sentence(11, "A train goes.");
        checks.sentence(11, "Throws `IndexOutOfBoundsException` if there is no such train");
        Miceline line = Lines.trainOn(1, 2, 2);
        for (int wrong : new int[] {-1, 1, LEAST, MOST}) {
            checks.dueIndex("go(" + wrong + ", 1)", line, () -> line.go(wrong, 1));
        }
        checks.due("the only one", 2, line.go(0, 1));
    }

    private void goesTails() {
        checks.sentence(11, "Throws `IllegalArgumentException` if tails is not 1 to 30");
        Miceline line = Lines.trainOn(1, 5, 5);
        for (int wrong : new int[] {0, 31, -1, LEAST, MOST}) {
            checks.dueArgument("go(0, " + wrong + ")", line, () -> line.go(0, wrong));
        }
        checks.due("1 is let", 2, line.go(0, 1));
        checks.due("2 is let", 4, line.go(0, 2));
        checks.due("30 is let", NONE, line.go(0, 30));
        checks.due("29 is let", NONE, Lines.trainOn(6, 5, 5, 5).go(0, 29));
    }

    private void goesIfOn() {
        checks.sentence(11, "Throws `IllegalStateException` if it is not ON");
        Miceline line = Lines.alike(1);
        line.train(0, 1, 1);
        checks.dueState("it waits", line, () -> line.go(0, 1));
        line.pull(0);
        checks.dueState("it waits, and could enter", line, () -> line.go(0, 1));
        line.enter(0);
        checks.due("it is on", 2, line.go(0, 1));
        checks.due("it leaves", NONE, line.go(0, 1));
        checks.dueState("it has left", line, () -> line.go(0, 1));
        checks.dueState("it has left, 30 tails", line, () -> line.go(0, 30));
        Miceline back = Lines.trainOn(1, 1, 1);
        back.lie(true, 0, true);
        back.lie(false, 0, true);
        back.back(0);
        checks.due("it goes also if the lever is back", 2, back.go(0, 1));
    }

    private void stopsAsItHasLeft() {
        checks.sentence(11, "- `tails`: how many tails (it stops as it has LEFT)");
        checks.sentence(11, "Returns its NOSE then; NONE, if it has LEFT.");
        checks.due("just to the last tail", 5, Lines.trainOn(2, 2, 2).go(0, 4));
        checks.due("just as it leaves", NONE, Lines.trainOn(2, 2, 2).go(0, 5));
        checks.due("one more", NONE, Lines.trainOn(2, 2, 2).go(0, 6));
        Miceline line = Lines.bothOn();
        line.go(1, 2);
        checks.due("through the other, and beyond", NONE, line.go(0, 30));
        checks.due("it clashed, and then no more", 2, line.line(9));
        checks.due("one has left", 1, line.line(6));
    }

    private void clashOfEntering() {
        checks.sentence(0, "A CLASH is each tail that a train goes (and each ENTERING)");
        Miceline line = Lines.alike(2);
        line.loose(0, 1, true);
        line.train(0, 1, 1);
        line.train(1, 1, 1);
        line.pull(0);
        line.pull(1);
        line.enter(0);
        checks.due("the first", 0, line.line(9));
        line.enter(1);
        checks.due("the second, into the same section", 1, line.line(9));
        Miceline other = Lines.alike(2);
        other.loose(0, 1, true);
        other.train(0, 1, 1);
        other.train(1, 1, 1);
        other.pull(0);
        other.pull(1);
        other.enter(0);
        other.go(0, 1);
        other.enter(1);
        checks.due("the first is in the next section", 0, other.line(9));
    }

    private void clashOfEachTail() {
        checks.sentence(0, "A CLASH is each tail that a train goes (and each ENTERING)");
        Miceline line = Lines.bothOn();
        line.go(1, 2);
        checks.due("alone in the middle", 0, line.line(9));
        line.go(0, 1);
        checks.due("one tail before", 0, line.line(9));
        line.go(0, 1);
        checks.due("the first tail of it", 1, line.line(9));
        line.go(0, 1);
        checks.due("the second tail of it", 2, line.line(9));
        line.go(1, 1);
        checks.due("a tail of the other one", 3, line.line(9));
        line.go(0, 1);
        checks.due("a tail that leaves it", 3, line.line(9));
        line.go(1, 1);
        checks.due("alone", 3, line.line(9));
        Miceline atOnce = Lines.bothOn();
        atOnce.go(1, 2);
        atOnce.go(0, 3);
        checks.due("three tails at once", 2, atOnce.line(9));
    }

    private void clashOnce() {
        checks.sentence(0, "(one CLASH, however many)");
        Miceline line = Lines.alike(2);
        line.loose(0, 1, true);
        line.train(0, 6, 1);
        line.train(1, 6, 1);
        line.pull(0);
        line.pull(1);
        line.enter(0);
        line.go(0, 1);
        line.enter(1);
        checks.due("in one section", 1, line.line(9));
        line.go(1, 1);
        checks.due("in two sections", 2, line.line(9));
    }

    private void clashOfThree() {
        checks.sentence(0, "(one CLASH, however many)");
        Miceline line = Lines.alike(4);
        Lines.setAllLoose(line, 4);
        for (int train = 0; train < 4; train++) {
            line.train(train, 1, 1);
            line.pull(train);
        }
        for (int train = 0; train < 4; train++) {
            checks.due("clashes before train " + train, train < 1 ? 0 : train - 1, line.line(9));
            line.enter(train);
        }
        checks.due("three have entered after the first", 3, line.line(9));
        checks.due("all in one", 4, line.ofSection(0, 1));
        checks.due("sight()", "!.", line.sight());
        line.go(0, 1);
        checks.due("into an empty one", 3, line.line(9));
        line.go(1, 1);
        checks.due("to it", 4, line.line(9));
        checks.due("two and two", "!!", line.sight());
    }

    private void clashWithOneThatIsOn() {
        checks.sentence(0, "if it is then IN a SECTION in which another train that is ON is, too");
        Miceline line = Lines.alike(1);
        for (int k = 0; k < 3; k++) {
            line.train(0, 2, 1);
        }
        line.pull(0);
        line.enter(0);
        checks.due("the others wait", 0, line.line(9));
        line.go(0, 1);
        checks.due("no train is another to itself", 0, line.line(9));
        line.go(0, 2);
        line.back(0);
        line.pull(0);
        line.enter(1);
        line.go(1, 2);
        checks.due("one has left, one waits", 0, line.line(9));
        line.lie(true, 0, true);
        line.lie(false, 1, true);
        line.back(0);
        line.pull(0);
        line.enter(2);
        checks.due("in another section", 0, line.line(9));
        line.go(2, 1);
        checks.due("a train of the same route", 1, line.line(9));
    }

    private void clashAtTheEnd() {
        checks.sentence(0, "if it is then IN a SECTION in which another train that is ON is, too");
        Miceline line = Lines.withSections(1, 1, 1);
        line.route(0, 1, NONE);
        line.route(2, 1, NONE);
        line.loose(0, 1, true);
        line.train(0, 6, 1);
        line.train(1, 6, 1);
        line.pull(0);
        line.pull(1);
        line.enter(0);
        line.enter(1);
        line.go(0, 6);
        checks.due("the last tail of one is in the middle", ".01", line.sight());
        checks.due("no clash yet", 0, line.line(9));
        line.go(1, 6);
        checks.due("the other goes to and through the middle", 6, line.line(9));
        checks.due("the last tails of both", ".!.", line.sight());
        line.go(1, 1);
        checks.due("leaving is none", 6, line.line(9));
        line.go(0, 1);
        checks.due("nor is leaving alone", 6, line.line(9));
        checks.due("sight()", "...", line.sight());
    }

    private void lastTrain() {
        checks.sentence(0, "The ENQUIRY keeps of each SECTION the last train that came to be IN it (NONE at first)");
        checks.sentence(14, "6 the last train that came to be IN it (NONE)");
        Miceline line = Lines.bothOn();
        dueLast(line, 0, NONE, 1);
        line.go(0, 1);
        dueLast(line, 0, NONE, 1);
        line.go(0, 1);
        dueLast(line, 0, 0, 1);
        line.go(1, 2);
        dueLast(line, 0, 1, 1);
        line.go(0, 1);
        checks.due("who was there before does not come anew", 1, line.ofSection(1, 6));
        line.go(0, 1);
        checks.due("nor as it leaves", 1, line.ofSection(1, 6));
        line.go(1, 2);
        dueLast(line, 0, 1, 1);
        Miceline waits = Lines.alike(1);
        waits.train(0, 1, 1);
        waits.pull(0);
        dueLast(waits, NONE, NONE);
        waits.enter(0);
        dueLast(waits, 0, NONE);
    }

    private void dueLast(Miceline line, int... due) {
        for (int section = 0; section < due.length; section++) {
            checks.due("the last train of " + section, due[section], line.ofSection(section, 6));
        }
    }

    private void lastTrainOfMany() {
        checks.sentence(0, "the last train that came to be IN it");
        Miceline line = Lines.withSections(1, 1, 1);
        line.route(0, 1, 2);
        for (int k = 0; k < 2; k++) {
            line.train(0, 6, 1);
        }
        line.pull(0);
        line.enter(1);
        line.go(1, 2);
        dueLast(line, 1, 1, 1);
        line.go(1, 30);
        dueLast(line, 1, 1, 1);
        line.back(0);
        line.pull(0);
        line.enter(0);
        dueLast(line, 0, 1, 1);
        line.go(0, 30);
        dueLast(line, 0, 0, 0);
    }

    private void minutes() {
        checks.sentence(12, "Minutes go by.");
        checks.sentence(12, "- `minutes`: how many");
        checks.sentence(12, "Throws `IllegalArgumentException` if minutes is not 1 to 99");
        checks.sentence(12, "Returns MINUTE then.");
        Miceline line = new Miceline();
        for (int wrong : new int[] {0, 100, -1, LEAST, MOST}) {
            checks.dueArgument("pass(" + wrong + ")", line, () -> line.pass(wrong));
        }
        checks.due("at first", 0, line.line(7));
        checks.due("1 is let", 1, line.pass(1));
        checks.due("99 is let", 100, line.pass(99));
        checks.due("now", 100, line.line(7));
    }

    private void minutesUpTo9999() {
        checks.sentence(0, "MINUTE is 0 at first, 9999 at most.");
        checks.sentence(12, "Throws `IllegalStateException` if MINUTE would be above 9999");
        Miceline line = new Miceline();
        Lines.passUpTo(line, 99);
        checks.due("so far", 9900, line.line(7));
        checks.due("just up to it", 9999, line.pass(99));
        checks.dueState("one more", line, () -> line.pass(1));
        checks.dueState("99 more", line, () -> line.pass(99));
        Miceline near = new Miceline();
        Lines.passUpTo(near, 98);
        checks.dueState("one too many", near, () -> near.pass(99));
        checks.due("98 are let", 9999, near.pass(98));
        Miceline last = new Miceline();
        Lines.passUpTo(last, 1);
        checks.dueState("two too many", last, () -> last.pass(2));
        checks.due("one is let", 9999, last.pass(1));
    }

    private void knocks() {
        checks.sentence(13, "Wakes the STATION MASTER.");
        checks.sentence(13, "Returns how many were REFUSED ever, with this.");
        checks.sentence(0, "The STATION MASTER is asleep: who wakes him is REFUSED (counted).");
        Miceline line = Lines.alike(2);
        checks.due("none", 0, line.line(16));
        checks.due("one", 1, line.knock());
        line.pull(0);
        line.pull(1);
        checks.dueState("an exception", line, () -> line.pull(0));
        checks.due("what else is refused does not count", 1, line.line(16));
        checks.due("two", 2, line.knock());
        checks.due("two", 2, line.line(16));
    }

    private void aheadOfWhich() {
        checks.sentence(21, "Throws `IndexOutOfBoundsException` if there is no such train");
        Miceline line = Lines.trainOn(1, 2, 2);
        for (int wrong : new int[] {-1, 1, LEAST, MOST}) {
            checks.dueIndex("ahead(" + wrong + ", 1)", line, () -> line.ahead(wrong, 1));
        }
        checks.due("the only one", 1, line.ahead(0, 1));
    }

    private void aheadTails() {
        checks.sentence(21, "Throws `IllegalArgumentException` if tails is not 0 to 30");
        checks.sentence(21, "Returns the set of SECTIONS in which it would be, if it went so many tails.");
        Miceline line = Lines.trainOn(3, 2, 3, 1);
        for (int wrong : new int[] {-1, 31, LEAST, MOST}) {
            checks.dueArgument("ahead(0, " + wrong + ")", line, () -> line.ahead(0, wrong));
        }
        int[] due = {1, 1, 3, 3, 2, 6, 6, 4, 0, 0};
        for (int tails = 0; tails < due.length; tails++) {
            checks.due("ahead(0, " + tails + ")", due[tails], line.ahead(0, tails));
        }
        checks.due("29 is let", 0, line.ahead(0, 29));
        checks.due("30 is let", 0, line.ahead(0, 30));
        line.go(0, 7);
        checks.due("where it is", 4, line.ahead(0, 0));
        checks.due("as it leaves", 0, line.ahead(0, 1));
    }

    private void aheadIfOn() {
        checks.sentence(21, "- `train`: a train that is ON");
        checks.sentence(21, "Throws `IllegalStateException` if it is not ON");
        Miceline line = Lines.alike(1);
        line.train(0, 1, 1);
        checks.dueState("it waits, no tails", line, () -> line.ahead(0, 0));
        checks.dueState("it waits", line, () -> line.ahead(0, 1));
        line.pull(0);
        line.enter(0);
        checks.due("it is on", 1, line.ahead(0, 0));
        line.go(0, 2);
        checks.dueState("it has left, no tails", line, () -> line.ahead(0, 0));
        checks.dueState("it has left", line, () -> line.ahead(0, 30));
    }

    private void aheadChangesNothing() {
        checks.sentence(21, "- `tails`: how many tails");
        Miceline line = Lines.bothOn();
        line.go(1, 2);
        String before = Checks.picture(line);
        checks.due("into the other", 2, line.ahead(0, 2));
        checks.due("beyond", 0, line.ahead(0, 30));
        checks.due("nothing is changed", before, Checks.picture(line));
    }
}
