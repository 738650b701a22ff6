import java.math.BigInteger;

/** The edges of what is asked: which questions there are, what they answer at first and of much, and the checksum. */
public final class AskEdgeTest {
    private static final int NONE = Lines.NONE;
    private static final int MOST = Lines.MOST;
    private static final int LEAST = Lines.LEAST;

    private final Checks checks = new Checks("AskEdgeTest");

    public static void main(String[] args) {
        AskEdgeTest test = new AskEdgeTest();
        test.none();
        test.risingNumbers();
        test.ofWhichSection();
        test.whatOfSection();
        test.sectionAtFirst();
        test.sectionInUse();
        test.ofWhichRoute();
        test.whatOfRoute();
        test.routeAtFirst();
        test.routeInUse();
        test.holderAskedOfPulled();
        test.ofWhichTrain();
        test.whatOfTrain();
        test.trainInEachState();
        test.whatOfLine();
        test.lineInUse();
        test.sightOfNone();
        test.sightOfNumbers();
        test.sightOfMore();
        test.soundWithLooseLocks();
        test.soundWithLiars();
        test.soundWithOneLiar();
        test.soundWithPay();
        test.digestOfNew();
        test.digestWraps();
        test.digestInOrder();
        test.digestChangesNothing();
        test.checks.end();
    }

    private void none() {
        checks.sentence(0, "Whole numbers. NONE is -1.");
        Miceline line = Lines.meeting();
        line.train(0, 1, 1);
        checks.due("no last train", -1, line.ofSection(0, 6));
        checks.due("no route that holds it", -1, line.ofRoute(0, 5));
        checks.due("no nose", -1, line.ofTrain(0, 4));
        checks.due("no answer but an exception", -1, line.would(0, false));
        checks.due("no steps", -1, line.danger(0, 0));
        line.pull(0);
        line.enter(0);
        checks.due("no nose any more", -1, line.go(0, 30));
        checks.due("no third section", 2, line.route(0, 2, -1));
    }

    private void risingNumbers() {
        checks.sentence(0, "X by X is by rising numbers.");
        Miceline line = Lines.withSections(1, 1, 1, 1);
        line.route(2, 0, NONE);
        line.route(1, 3, NONE);
        for (int train = 0; train < 2; train++) {
            line.train(1 - train, 2, 1);
            line.pull(1 - train);
            line.enter(train);
        }
        line.go(1, 2);
        checks.due("not by rows, nor as they entered", "10..", line.sight());
        checks.due("the checksum, too", digestOf(line).longValue(), line.digest());
    }

    private void ofWhichSection() {
        checks.sentence(14, "Throws `IndexOutOfBoundsException` if there is no such SECTION");
        Miceline line = Lines.withSections(1, 2, 3);
        for (int wrong : new int[] {-1, 3, LEAST, MOST}) {
            checks.dueIndex("ofSection(" + wrong + ", 0)", line, () -> line.ofSection(wrong, 0));
            checks.dueIndex("ofSection(" + wrong + ", 6)", line, () -> line.ofSection(wrong, 6));
        }
        checks.due("the first", 1, line.ofSection(0, 0));
        checks.due("the last", 3, line.ofSection(2, 0));
    }

    private void whatOfSection() {
        checks.sentence(14, "Throws `IllegalArgumentException` if what is not 0 to 6");
        Miceline line = Lines.withSections(4);
        for (int wrong : new int[] {-1, 7, LEAST, MOST}) {
            checks.dueArgument("ofSection(0, " + wrong + ")", line, () -> line.ofSection(0, wrong));
        }
        checks.due("0 is let", 4, line.ofSection(0, 0));
        checks.due("6 is let", NONE, line.ofSection(0, 6));
    }

    private void sectionAtFirst() {
        checks.sentence(14, "- `section`: a SECTION");
        checks.sentence(14, "- `what`: 0 LENGTH, 1 how many trains are IN it");
        Miceline line = Lines.withSections(4, 5);
        dueOfSection(line, 0, 4, 0, 0, 0, 0, 0, NONE);
        dueOfSection(line, 1, 5, 0, 0, 0, 0, 0, NONE);
    }

    private void dueOfSection(Miceline line, int section, int... due) {
        for (int what = 0; what <= 6; what++) {
            checks.due("ofSection(" + section + ", " + what + ")", due[what], line.ofSection(section, what));
        }
    }

    private void sectionInUse() {
        checks.sentence(14, "Returns that.");
        checks.sentence(14, "2 1 if its detector shows FULL, otherwise 0, 3 1 if that LIES, otherwise 0, "
                + "4 1 if a CAT sits there, otherwise 0, 5 the set of ROUTES that have it, "
                + "6 the last train that came to be IN it (NONE)");
        Miceline line = Lines.withSections(1, 2, 3, 4);
        line.route(0, 1, NONE);
        line.route(3, 2, NONE);
        line.route(2, 1, 0);
        for (int train = 0; train < 3; train++) {
            line.train(train, 1, 1);
        }
        line.loose(0, 2, true);
        line.pull(0);
        line.pull(2);
        line.enter(0);
        line.go(0, 1);
        dueOfSection(line, 0, 1, 0, 0, 0, 0, 5, 0);
        dueOfSection(line, 1, 2, 1, 1, 0, 0, 5, 0);
        line.enter(2);
        line.go(2, 3);
        line.cat(3, true);
        line.lie(false, 1, true);
        dueOfSection(line, 0, 1, 0, 0, 0, 0, 5, 0);
        dueOfSection(line, 1, 2, 2, 0, 1, 0, 5, 2);
        dueOfSection(line, 2, 3, 0, 0, 0, 0, 6, 2);
        dueOfSection(line, 3, 4, 0, 0, 0, 1, 2, NONE);
        line.lie(false, 1, false);
        line.go(0, 30);
        dueOfSection(line, 1, 2, 1, 1, 0, 0, 5, 2);
        line.cat(3, false);
        dueOfSection(line, 3, 4, 0, 0, 0, 0, 2, NONE);
    }

    private void ofWhichRoute() {
        checks.sentence(15, "Throws `IndexOutOfBoundsException` if there is no such ROUTE");
        Miceline line = Lines.meeting();
        for (int wrong : new int[] {-1, 2, LEAST, MOST}) {
            checks.dueIndex("ofRoute(" + wrong + ", 0)", line, () -> line.ofRoute(wrong, 0));
            checks.dueIndex("ofRoute(" + wrong + ", 9)", line, () -> line.ofRoute(wrong, 9));
        }
        checks.due("the first", 3, line.ofRoute(0, 0));
        checks.due("the last", 6, line.ofRoute(1, 0));
    }

    private void whatOfRoute() {
        checks.sentence(15, "Throws `IllegalArgumentException` if what is not 0 to 9");
        Miceline line = Lines.alike(1);
        for (int wrong : new int[] {-1, 10, LEAST, MOST}) {
            checks.dueArgument("ofRoute(0, " + wrong + ")", line, () -> line.ofRoute(0, wrong));
        }
        checks.due("0 is let", 3, line.ofRoute(0, 0));
        checks.due("9 is let", 0, line.ofRoute(0, 9));
    }

    private void routeAtFirst() {
        checks.sentence(15, "- `route`: a ROUTE");
        checks.sentence(15, "- `what`: 0 the set of its SECTIONS, 1 how long its WAY is");
        Miceline line = Lines.withSections(5, 5, 5, 5, 5, 5, 5, 5);
        line.route(7, 0, 6);
        line.route(1, 2, NONE);
        dueOfRoute(line, 0, 193, 15, 0, 0, 0, NONE, 0, 0, 0, 0);
        dueOfRoute(line, 1, 6, 10, 0, 0, 0, NONE, 0, 0, 0, 0);
    }

    private void dueOfRoute(Miceline line, int route, int... due) {
        for (int what = 0; what <= 9; what++) {
            checks.due("ofRoute(" + route + ", " + what + ")", due[what], line.ofRoute(route, what));
        }
    }

    private void routeInUse() {
        checks.sentence(15, "Returns that.");
        checks.sentence(15, "2 1 if its LEVER is PULLED, otherwise 0, 3 1 if USED, otherwise 0, "
                + "4 the set of its FOES");
        checks.sentence(15, "6 how many trains that entered by it have not LEFT, "
                + "7 1 if its counter shows FULL, otherwise 0, 8 1 if that LIES, otherwise 0, "
                + "9 how often its LEVER was tried");
        Miceline line = Lines.meeting();
        line.train(0, 3, 1);
        line.train(0, 3, 1);
        line.pull(0);
        dueOfRoute(line, 0, 3, 4, 1, 0, 2, NONE, 0, 0, 0, 1);
        dueOfRoute(line, 1, 6, 4, 0, 0, 1, 0, 0, 0, 0, 0);
        line.enter(0);
        line.pull(1);
        dueOfRoute(line, 0, 3, 4, 1, 1, 2, NONE, 1, 1, 0, 1);
        dueOfRoute(line, 1, 6, 4, 0, 0, 1, 0, 0, 0, 0, 1);
        line.lie(true, 0, true);
        line.lie(false, 0, true);
        line.back(0);
        dueOfRoute(line, 0, 3, 4, 0, 1, 2, NONE, 1, 0, 1, 2);
        line.pull(0);
        line.enter(1);
        dueOfRoute(line, 0, 3, 4, 1, 1, 2, NONE, 2, 0, 1, 3);
        line.lie(true, 0, false);
        line.go(0, 30);
        dueOfRoute(line, 0, 3, 4, 1, 1, 2, NONE, 1, 1, 0, 3);
        line.go(1, 30);
        dueOfRoute(line, 0, 3, 4, 1, 1, 2, NONE, 0, 0, 0, 3);
    }

    private void holderAskedOfPulled() {
        checks.sentence(15, "5 the ROUTE that HOLDS it now, whether it was tried or not (NONE)");
        Miceline line = Lines.alike(3);
        line.pull(1);
        checks.due("not tried", 1, line.ofRoute(0, 5));
        line.pull(0);
        checks.due("tried", 1, line.ofRoute(0, 5));
        checks.due("pulled itself", NONE, line.ofRoute(1, 5));
        line.loose(0, 1, true);
        checks.due("loose", NONE, line.ofRoute(0, 5));
        line.pull(0);
        checks.due("both are pulled, loose", NONE, line.ofRoute(0, 5));
        checks.due("both are pulled, loose", NONE, line.ofRoute(1, 5));
        checks.due("the smallest of two", 0, line.ofRoute(2, 5));
        line.back(0);
        checks.due("the other one", 1, line.ofRoute(2, 5));
        line.back(1);
        checks.due("none", NONE, line.ofRoute(2, 5));
    }

    private void ofWhichTrain() {
        checks.sentence(16, "Throws `IndexOutOfBoundsException` if there is no such train");
        Miceline line = Lines.meeting();
        line.train(1, 2, 3);
        line.train(0, 4, 5);
        for (int wrong : new int[] {-1, 2, LEAST, MOST}) {
            checks.dueIndex("ofTrain(" + wrong + ", 0)", line, () -> line.ofTrain(wrong, 0));
            checks.dueIndex("ofTrain(" + wrong + ", 6)", line, () -> line.ofTrain(wrong, 6));
        }
        checks.due("the first", 1, line.ofTrain(0, 0));
        checks.due("the last", 0, line.ofTrain(1, 0));
    }

    private void whatOfTrain() {
        checks.sentence(16, "Throws `IllegalArgumentException` if what is not 0 to 6");
        Miceline line = Lines.meeting();
        line.train(1, 2, 3);
        line.pass(4);
        for (int wrong : new int[] {-1, 7, LEAST, MOST}) {
            checks.dueArgument("ofTrain(0, " + wrong + ")", line, () -> line.ofTrain(0, wrong));
        }
        checks.due("0 is let", 1, line.ofTrain(0, 0));
        checks.due("6 is let", 12, line.ofTrain(0, 6));
    }

    private void trainInEachState() {
        checks.sentence(16, "Returns that.");
        checks.sentence(16, "- `train`: a train");
        checks.sentence(16, "- `what`: 0 its ROUTE, 1 LENGTH, 2 TASTE, 3 0 if it WAITS, 1 if it is ON, "
                + "2 if it has LEFT, "
                + "4 NOSE (NONE, if it is not ON), 5 the set of SECTIONS in which it is, "
                + "6 cheese: what it was paid, or would be paid now, if it still WAITS");
        Miceline line = Lines.meeting();
        line.pass(3);
        line.train(1, 3, 4);
        dueOfTrain(line, 1, 3, 4, 0, NONE, 0, 0);
        line.pass(2);
        dueOfTrain(line, 1, 3, 4, 0, NONE, 0, 8);
        line.pull(1);
        line.enter(0);
        line.pass(9);
        dueOfTrain(line, 1, 3, 4, 1, 1, 4, 8);
        line.go(0, 2);
        dueOfTrain(line, 1, 3, 4, 1, 3, 6, 8);
        line.go(0, 3);
        dueOfTrain(line, 1, 3, 4, 1, 6, 2, 8);
        line.go(0, 1);
        dueOfTrain(line, 1, 3, 4, 2, NONE, 0, 8);
        line.pass(9);
        dueOfTrain(line, 1, 3, 4, 2, NONE, 0, 8);
    }

    private void dueOfTrain(Miceline line, int... due) {
        for (int what = 0; what <= 6; what++) {
            checks.due("ofTrain(0, " + what + ")", due[what], line.ofTrain(0, what));
        }
    }

    private void whatOfLine() {
        checks.sentence(17, "Throws `IllegalArgumentException` if what is not 0 to 16");
        Miceline line = Lines.withSections(1, 1, 1);
        line.knock();
        for (int wrong : new int[] {-1, 17, LEAST, MOST}) {
            checks.dueArgument("line(" + wrong + ")", line, () -> line.line(wrong));
        }
        checks.due("0 is let", 3, line.line(0));
        checks.due("16 is let", 1, line.line(16));
    }

    private void lineInUse() {
        checks.sentence(17, "Returns that.");
        checks.sentence(17, "- `what`: 0 SECTIONS, 1 ROUTES, 2 LEVERS that are PULLED, 3 trains, 4 those that WAIT, "
                + "5 those that are ON, 6 those that have LEFT, 7 MINUTE, 8 cheese that was paid, 9 CLASHES");
        checks.sentence(17, "12 CATS, 13 pairs of FOES, 14 LOOSE locks, 15 1 if a lock ever was LOOSE, otherwise 0, "
                + "16 how many were REFUSED (by knock() only)");
        Miceline line = Lines.meeting();
        line.route(0, 2, NONE);
        dueOfLine(line, 3, 3, 0, 0, 0, 0, 0, 0, 0, 0, 0, 0, 0, 3, 0, 0, 0);
        for (int train = 0; train < 6; train++) {
            line.train(train % 2, 1, 2);
        }
        line.pass(7);
        line.loose(0, 1, true);
        line.pull(0);
        line.pull(1);
        line.pull(2);
        line.enter(2);
        line.enter(1);
        line.cat(1, true);
        line.cat(2, true);
        line.cat(0, true);
        line.lie(true, 2, true);
        line.lie(true, 1, true);
        line.lie(false, 2, true);
        line.lie(false, 2, false);
        dueOfLine(line, 3, 3, 2, 6, 4, 2, 0, 7, 28, 0, 2, 3, 3, 3, 1, 1, 0);
        line.go(1, 3);
        line.go(2, 30);
        line.knock();
        line.knock();
        line.cat(1, false);
        dueOfLine(line, 3, 3, 2, 6, 4, 1, 1, 7, 28, 2, 2, 3, 2, 3, 1, 1, 2);
        line.go(1, 1);
        line.back(0);
        line.loose(1, 0, false);
        dueOfLine(line, 3, 3, 1, 6, 4, 0, 2, 7, 28, 2, 2, 3, 2, 3, 0, 1, 2);
    }

    private void dueOfLine(Miceline line, int... due) {
        for (int what = 0; what <= 16; what++) {
            checks.due("line(" + what + ")", due[what], line.line(what));
        }
    }

    private void sightOfNone() {
        checks.sentence(18, "Returns SECTION by SECTION: \".\" with no train in it");
        checks.due("no section", "", new Miceline().sight());
        checks.due("one section", ".", Lines.withSections(5).sight());
        checks.due("eight sections", "........", Lines.withSections(1, 2, 3, 4, 5, 1, 2, 3).sight());
        Miceline line = Lines.alike(1);
        line.train(0, 1, 1);
        line.cat(0, true);
        line.lie(false, 1, true);
        checks.due("a train that waits, a cat, and a lie", "..", line.sight());
    }

    private void sightOfNumbers() {
        checks.sentence(18, "the number of the train");
        Miceline line = Lines.withSections(1, 1, 1, 1);
        line.route(3, 1, NONE);
        for (int train = 0; train < 10; train++) {
            line.train(0, 2, 1);
        }
        for (int train = 9; train >= 0; train--) {
            line.pull(0);
            line.enter(train);
            checks.due("train " + train + " in its first section", "..." + train, line.sight());
            line.go(train, 1);
            checks.due("train " + train + " in both", "." + train + "." + train, line.sight());
            line.go(train, 1);
            checks.due("train " + train + " in its last section", "." + train + "..", line.sight());
            line.go(train, 1);
            checks.due("train " + train + " has left", "....", line.sight());
            line.back(0);
        }
    }

    private void sightOfMore() {
        checks.sentence(18, "\"!\" with more; with nothing between.");
        Miceline line = Lines.bothOn();
        line.go(0, 2);
        line.go(1, 2);
        checks.due("two", ".!.", line.sight());
        line.lie(false, 1, true);
        checks.due("two, and a lie", ".!.", line.sight());
        line.go(0, 2);
        checks.due("one of them has left", ".1.", line.sight());
        Miceline three = Lines.alike(3);
        Lines.setAllLoose(three, 3);
        for (int train = 0; train < 3; train++) {
            three.train(train, 2, 1);
            three.pull(train);
        }
        for (int train = 0; train < 3; train++) {
            three.enter(train);
        }
        checks.due("three", "!.", three.sight());
        three.go(1, 1);
        checks.due("three, one of them in both", "!1", three.sight());
    }

    private void soundWithLooseLocks() {
        checks.sentence(22, "Returns whether all of this is so: CLASHES is 0, if no two LIED at once ever, and no "
                + "lock was LOOSE ever");
        checks.sentence(22, "if no lock is LOOSE, danger() of all detectors without a counter, and of all counters "
                + "without a detector, is NONE");
        checks.sentence(22, "no two FOES are PULLED but with a LOOSE lock");
        Miceline line = Lines.bothOn();
        checks.due("two foes are pulled, and danger is near", true, line.isSound());
        line.go(0, 2);
        line.go(1, 2);
        checks.due("a clash", true, line.isSound());
        line.go(0, 2);
        line.go(1, 2);
        line.back(0);
        line.loose(0, 1, false);
        checks.due("clashes", 2, line.line(9));
        checks.due("no lock is loose any more", true, line.isSound());
    }

    private void soundWithLiars() {
        checks.sentence(22, "CLASHES is 0, if no two LIED at once ever");
        Miceline line = Lines.alike(1);
        line.train(0, 1, 1);
        line.train(0, 1, 1);
        line.lie(true, 0, true);
        line.lie(false, 0, true);
        line.pull(0);
        line.enter(0);
        line.back(0);
        line.pull(0);
        line.enter(1);
        checks.due("a clash", 1, line.line(9));
        checks.due("two lie", true, line.isSound());
        line.lie(true, 0, false);
        checks.due("one lies still", true, line.isSound());
        line.lie(false, 0, false);
        checks.due("none lies any more", true, line.isSound());
    }

    private void soundWithOneLiar() {
        checks.sentence(22, "`boolean isSound()`");
        Miceline line = Lines.trainOn(1, 1, 1);
        line.route(1, 0, NONE);
        line.lie(false, 0, true);
        checks.due("the counter bars it", 1, line.back(0));
        checks.due("a detector lies", true, line.isSound());
        line.lie(false, 0, false);
        line.lie(true, 0, true);
        checks.due("a detector bars it", 2, line.back(0));
        checks.due("a counter lies", true, line.isSound());
        checks.due("without a clash", 0, line.line(9));
        checks.due("all at once, without trains", true, Lines.full().isSound());
        checks.due("a new line", true, new Miceline().isSound());
    }

    private void soundWithPay() {
        checks.sentence(22, "trains that WAIT, are ON and have LEFT are all; what was paid is what all were paid.");
        Miceline line = Lines.apart();
        line.train(0, 1, 5);
        line.train(1, 1, 4);
        line.train(1, 1, 3);
        line.pass(9);
        checks.due("all wait", true, line.isSound());
        line.pull(0);
        line.pull(1);
        line.enter(0);
        line.enter(1);
        checks.due("two are on", true, line.isSound());
        line.go(0, 30);
        line.pass(9);
        checks.due("one has left, one waits for more", true, line.isSound());
        checks.due("they were paid", 81, line.line(8));
    }

    private void digestOfNew() {
        checks.sentence(23, "A number d starts with 9103");
        BigInteger d = BigInteger.valueOf(9103);
        int[] due = {0, 0, 0, 0, 0, 0, 0, 0, 0, 0, 0, 0, 0, 0, 0, 0, 0, NONE, NONE, 0, 1};
        for (int v : due) {
            d = d.multiply(BigInteger.valueOf(31)).add(BigInteger.valueOf(v));
        }
        checks.due("a new line", d.longValue(), new Miceline().digest());
        checks.due("which wraps around", true, d.bitLength() > 64);
    }

    private void digestWraps() {
        checks.sentence(23, "which wraps around as a 64-bit integer");
        boolean below = false;
        boolean above = false;
        Miceline line = Lines.bothOn();
        for (int k = 0; k < 20; k++) {
            line.knock();
            BigInteger due = digestOf(line);
            long got = line.digest();
            checks.due("after knock " + k, due.longValue(), got);
            checks.due("the number without wrapping is longer", true, due.bitLength() > 64);
            below |= got < 0;
            above |= got > 0;
        }
        checks.due("below 0 and above", true, below && above);
        Miceline full = Lines.full();
        for (int train = 0; train < 4; train++) {
            full.enter(train);
            full.go(train, 7);
        }
        checks.due("the full line", digestOf(full).longValue(), full.digest());
    }

    /** The checksum of what a line answers, by numbers without a bound. */
    private static BigInteger digestOf(Miceline line) {
        BigInteger d = BigInteger.valueOf(9103);
        for (int what = 0; what <= 16; what++) {
            d = with(d, line.line(what));
        }
        for (int k = 0; k < 7 * line.line(0); k++) {
            d = with(d, line.ofSection(k / 7, k % 7));
        }
        for (int route = 0; route < line.line(1); route++) {
            for (int what = 0; what <= 9; what++) {
                d = with(d, line.ofRoute(route, what));
            }
            d = with(with(d, line.would(route, true)), line.would(route, false));
        }
        for (int k = 0; k < 7 * line.line(3); k++) {
            d = with(d, line.ofTrain(k / 7, k % 7));
        }
        d = with(d, line.danger((1 << line.line(0)) - 1, (1 << line.line(1)) - 1));
        d = with(with(d, line.danger(0, 0)), line.sight().length());
        return with(d, line.isSound() ? 1 : 0);
    }

    private static BigInteger with(BigInteger d, int v) {
        return d.multiply(BigInteger.valueOf(31)).add(BigInteger.valueOf(v));
    }

    private void digestInOrder() {
        checks.sentence(23, "line() of 0 to 16; SECTION by SECTION ofSection() of 0 to 6; "
                + "ROUTE by ROUTE ofRoute() of 0 to 9, "
                + "would() to PULL, then to put BACK; train by train ofTrain() of 0 to 6; "
                + "danger() of all detectors and all counters, "
                + "then of no detector and no counter; how many signs sight() has; 1 if isSound(), otherwise 0.");
        checks.due("sections alone", digestOf(Lines.withSections(3, 5)).longValue(), Lines.withSections(3, 5).digest());
        Miceline line = Lines.meeting();
        checks.due("routes", digestOf(line).longValue(), line.digest());
        line.train(0, 6, 5);
        line.train(1, 3, 2);
        line.pass(50);
        checks.due("trains that wait", digestOf(line).longValue(), line.digest());
        line.pull(1);
        line.enter(1);
        line.cat(1, true);
        checks.due("a train that is on", digestOf(line).longValue(), line.digest());
        line.go(1, 30);
        line.back(1);
        line.loose(0, 1, true);
        checks.due("one that has left", digestOf(line).longValue(), line.digest());
        line.lie(false, 2, true);
        line.lie(true, 1, true);
        line.knock();
        checks.due("lies and knocks", digestOf(line).longValue(), line.digest());
    }

    private void digestChangesNothing() {
        checks.sentence(23, "Computes a checksum.");
        checks.sentence(23, "Returns d.");
        Miceline line = Lines.bothOn();
        long first = line.digest();
        checks.due("asked again", first, line.digest());
        checks.due("nothing is tried", 1, line.ofRoute(0, 9));
        checks.due("the same of another line like it", first, Lines.bothOn().digest());
        line.knock();
        checks.due("another number after a call", true, first != line.digest());
    }
}
