/** The edges of the proof: which sets of liars there are, and what each rule of the frame by itself lets and bars. */
public final class ProofEdgeTest {
    private static final int NONE = Lines.NONE;
    private static final int MOST = Lines.MOST;
    private static final int LEAST = Lines.LEAST;

    private final Checks checks = new Checks("ProofEdgeTest");

    public static void main(String[] args) {
        ProofEdgeTest test = new ProofEdgeTest();
        test.setsOfLiars();
        test.wrongSets();
        test.neverCome();
        test.looseLocksAsTheyAre();
        test.liarsAsAsked();
        test.backAndEmptyAtFirst();
        test.oneTrainARoute();
        test.shortTrains();
        test.cats();
        test.pullIfNotHeld();
        test.pullBesideLooseLocks();
        test.pullIfNoTrainIsSeen();
        test.enters();
        test.goesOn();
        test.goesOnThoughBack();
        test.backIfNoTrainIsCounted();
        test.backIfNoTrainIsSeen();
        test.backInEachPlace();
        test.dangerByEntering();
        test.dangerAtOnce();
        test.fewestOfMany();
        test.nothingIsChanged();
        test.checks.end();
    }

    private void setsOfLiars() {
        checks.sentence(20, "Throws `IllegalArgumentException` if detectors is no set of SECTIONS that there are, or "
                + "counters none of ROUTES");
        Miceline line = new Miceline();
        for (int sections = 0; sections <= 8; sections++) {
            int all = (1 << sections) - 1;
            checks.due("all of " + sections, NONE, line.danger(all, 0));
            checks.dueArgument("one more than all of " + sections, line, () -> line.danger(all + 1, 0));
            if (sections < 8) {
                line.section(1);
            }
        }
        for (int routes = 0; routes <= 4; routes++) {
            int all = (1 << routes) - 1;
            checks.due("all counters of " + routes, NONE, line.danger(0, all));
            checks.dueArgument("one more than all counters of " + routes, line, () -> line.danger(0, all + 1));
            if (routes < 4) {
                line.route(routes, routes + 1, NONE);
            }
        }
    }

    private void wrongSets() {
        checks.sentence(20, "- `detectors`: a set of SECTIONS whose detectors are liars");
        checks.sentence(20, "- `counters`: a set of ROUTES whose counters are liars");
        Miceline line = Lines.meeting();
        for (int wrong : new int[] {-1, 8, 9, 15, 256, 1 << 30, LEAST, LEAST + 1, MOST}) {
            checks.dueArgument("detectors " + wrong, line, () -> line.danger(wrong, 0));
            checks.dueArgument("detectors " + wrong + ", and counters", line, () -> line.danger(wrong, 3));
        }
        for (int wrong : new int[] {-1, 4, 5, 7, 16, 1 << 30, LEAST, LEAST + 1, MOST}) {
            checks.dueArgument("counters " + wrong, line, () -> line.danger(0, wrong));
            checks.dueArgument("counters " + wrong + ", and detectors", line, () -> line.danger(7, wrong));
            checks.dueArgument("both", line, () -> line.danger(wrong, wrong));
        }
        checks.due("all that there are", 7, line.danger(7, 3));
        checks.due("none", NONE, line.danger(0, 0));
    }

    private void neverCome() {
        checks.sentence(20, "Returns the fewest steps to DANGER; NONE.");
        checks.sentence(0, "The fewest steps to DANGER; NONE, if it is never come to.");
        checks.due("no routes", NONE, Lines.withSections(1, 1).danger(3, 0));
        checks.due("one route", NONE, Lines.alike(1).danger(3, 1));
        checks.due("no foes", NONE, Lines.apart().danger(15, 3));
        checks.due("no liars", NONE, Lines.alike(4).danger(0, 0));
        checks.due("detectors alone", NONE, Lines.alike(4).danger(3, 0));
        checks.due("counters alone", NONE, Lines.alike(4).danger(0, 15));
        checks.due("all of them", 5, Lines.alike(4).danger(3, 15));
    }

    private void looseLocksAsTheyAre() {
        checks.sentence(0, "The frame by itself, with LOOSE locks as they are");
        Miceline line = Lines.meeting();
        checks.due("not loose", NONE, line.danger(0, 0));
        line.loose(1, 0, true);
        checks.due("loose", 6, line.danger(0, 0));
        line.loose(0, 1, false);
        checks.due("not loose any more", NONE, line.danger(0, 0));
        checks.due("not loose any more, all lie", 7, line.danger(7, 3));
    }

    private void liarsAsAsked() {
        checks.sentence(0, "a set of detectors and a set of counters that are liars (others are not, whatever LIES "
                + "now)");
        Miceline line = Lines.meeting();
        for (int section = 0; section < 3; section++) {
            line.lie(false, section, true);
        }
        line.lie(true, 0, true);
        line.lie(true, 1, true);
        checks.due("all lie now, none is asked", NONE, line.danger(0, 0));
        checks.due("all lie now, detectors are asked", NONE, line.danger(7, 0));
        checks.due("all lie now, counters are asked", NONE, line.danger(0, 3));
        checks.due("none lies now, all are asked", 7, Lines.meeting().danger(7, 3));
        checks.due("none lies now, two are asked", 7, Lines.meeting().danger(2, 2));
    }

    private void backAndEmptyAtFirst() {
        checks.sentence(0, "at first all LEVERS are BACK, and no train is there.");
        Miceline line = Lines.bothOn();
        line.go(0, 2);
        checks.due("both are pulled, and on", 6, line.danger(0, 0));
        line.go(1, 2);
        checks.due("both are in one section now", 6, line.danger(0, 0));
        Miceline pulled = Lines.meeting();
        pulled.pull(0);
        checks.due("one is pulled", 7, pulled.danger(2, 1));
        checks.due("one is pulled, the other's counter", 7, pulled.danger(2, 2));
        checks.due("one is pulled, none lies", NONE, pulled.danger(0, 0));
        Miceline used = Lines.trainOn(1, 1, 1);
        used.route(1, 0, NONE);
        used.loose(0, 1, true);
        checks.due("one is used", 5, used.danger(0, 0));
    }

    private void oneTrainARoute() {
        checks.sentence(0, "Trains are short: on each ROUTE one at most, in one SECTION of it.");
        checks.sentence(0, "its LEVER is PULLED (it is not USED then), if it is BACK, no train is on it");
        Miceline line = Lines.withSections(1, 1, 1);
        line.route(0, 1, 2);
        checks.due("one route of three, all lie", NONE, line.danger(7, 1));
        Miceline two = Lines.apart();
        checks.due("two routes apart, all lie", NONE, two.danger(15, 3));
        checks.due("two routes apart, one lies", NONE, two.danger(3, 1));
    }

    private void shortTrains() {
        checks.sentence(0, "Trains are short: on each ROUTE one at most, in one SECTION of it.");
        for (int length = 1; length <= 5; length++) {
            Miceline line = Lines.withSections(length, length, length);
            line.route(0, 1, NONE);
            line.route(2, 1, NONE);
            line.train(0, 6, 1);
            checks.due("sections of " + length, 7, line.danger(2, 1));
            line.loose(0, 1, true);
            checks.due("sections of " + length + ", loose", 6, line.danger(0, 0));
        }
    }

    private void cats() {
        checks.sentence(0, "(CATS do not matter.)");
        Miceline line = Lines.meeting();
        for (int section = 0; section < 3; section++) {
            line.cat(section, true);
        }
        checks.due("none lies", NONE, line.danger(0, 0));
        checks.due("two lie", 7, line.danger(2, 1));
        line.loose(0, 1, true);
        checks.due("a loose lock", 6, line.danger(0, 0));
    }

    private void pullIfNotHeld() {
        checks.sentence(0, "no FOE is PULLED but with a LOOSE lock");
        checks.due("no lock is loose", NONE, Lines.alike(2).danger(0, 0));
        Miceline line = Lines.alike(2);
        line.loose(0, 1, true);
        checks.due("pull, pull, enter, enter", 4, line.danger(0, 0));
        Miceline apart = Lines.withSections(1, 1, 1, 1, 1);
        apart.route(0, 1, NONE);
        apart.route(2, 3, NONE);
        apart.route(1, 4, NONE);
        checks.due("foes by another row than the first two", NONE, apart.danger(0, 0));
        checks.due("all lie: the first foes of all", 6, apart.danger(31, 7));
    }

    /** Of three ROUTES only those two with the LOOSE lock come together. */
    private void pullBesideLooseLocks() {
        checks.sentence(0, "no FOE is PULLED but with a LOOSE lock");
        int[][] rows = {{0, 1, 2}, {3, 4, 2}, {5, 2, NONE}};
        int[][] pairs = {{0, 1}, {0, 2}, {1, 2}};
        int[] due = {8, 7, 7};
        for (int k = 0; k < 3; k++) {
            Miceline line = Lines.withSections(1, 1, 1, 1, 1, 1);
            for (int[] row : rows) {
                line.route(row[0], row[1], row[2]);
            }
            line.loose(pairs[k][0], pairs[k][1], true);
            checks.due("loose " + pairs[k][0] + " and " + pairs[k][1], due[k], line.danger(0, 0));
        }
        Miceline all = Lines.alike(4);
        Lines.setAllLoose(all, 4);
        checks.due("all are loose", 4, all.danger(0, 0));
        all.loose(0, 1, false);
        checks.due("the first lock is not", 4, all.danger(0, 0));
    }

    private void pullIfNoTrainIsSeen() {
        checks.sentence(0, "and no train of any ROUTE is in one of its SECTIONS whose detector is no liar;");
        Miceline line = Lines.withSections(1, 1, 1);
        line.route(0, 1, 2);
        line.route(2, 1, NONE);
        checks.due("0's train is seen by both in each section that both have", NONE, line.danger(0, 1));
        checks.due("it is let go in its first section", 7, line.danger(1, 1));
        checks.due("it is let go in its second section", 7, line.danger(2, 1));
        checks.due("it is let go in its third section", 7, line.danger(4, 1));
    }

    private void enters() {
        checks.sentence(0, "a train ENTERS its first SECTION, if it is PULLED and not USED (it is USED then);");
        Miceline line = Lines.withSections(1, 1, 1);
        line.route(0, 1, NONE);
        line.route(1, 2, NONE);
        line.loose(0, 1, true);
        checks.due("the second one's first section", 5, line.danger(0, 0));
        Miceline turned = Lines.withSections(1, 1, 1);
        turned.route(1, 0, NONE);
        turned.route(1, 2, NONE);
        turned.loose(0, 1, true);
        checks.due("the first section of both", 4, turned.danger(0, 0));
        Miceline turnedAgain = Lines.withSections(1, 1, 1);
        turnedAgain.route(1, 0, NONE);
        turnedAgain.route(2, 1, NONE);
        turnedAgain.loose(0, 1, true);
        checks.due("the first one's first section", 5, turnedAgain.danger(0, 0));
    }

    /** Two ROUTES with a LOOSE lock that have one SECTION in common: two pulls, two entries, and the steps to it. */
    private void goesOn() {
        checks.sentence(0, "its train goes to its next SECTION, or leaves from its last one;");
        for (int one = 0; one < 3; one++) {
            for (int other = 0; other < 3; other++) {
                Miceline line = Lines.withSections(1, 1, 1, 1, 1, 1);
                int[] row = {3, 4, 5};
                row[other] = one;
                line.route(0, 1, 2);
                line.route(row[0], row[1], row[2]);
                line.loose(0, 1, true);
                checks.due("place " + one + " is place " + other, 4 + one + other, line.danger(0, 0));
            }
        }
        Miceline line = Lines.withSections(1, 1);
        line.route(0, 1, NONE);
        line.route(1, 0, NONE);
        line.loose(0, 1, true);
        checks.due("one goes where the other entered", 5, line.danger(0, 0));
    }

    private void goesOnThoughBack() {
        checks.sentence(0, "its train goes to its next SECTION");
        Miceline line = Lines.meeting();
        checks.due("both go to the middle, the lever of one is back", 7, line.danger(1, 1));
        Miceline three = Lines.withSections(1, 1, 1, 1);
        three.route(0, 1, 2);
        three.route(3, 2, NONE);
        checks.due("it goes two sections on", 8, three.danger(1, 1));
    }

    private void backIfNoTrainIsCounted() {
        checks.sentence(0, "its LEVER is put BACK, if it is PULLED, either no train is on it or its counter is a liar");
        Miceline line = Lines.meeting();
        checks.due("no counter", NONE, line.danger(7, 0));
        checks.due("its counter", 7, line.danger(1, 1));
        checks.due("the other counter", NONE, line.danger(1, 2));
        checks.due("the other one's", 7, line.danger(4, 2));
        checks.due("not the other one's", NONE, line.danger(4, 1));
        Miceline last = Lines.alike(4);
        for (int route = 0; route < 4; route++) {
            checks.due("counter " + route, 5, last.danger(1, 1 << route));
        }
    }

    private void backIfNoTrainIsSeen() {
        checks.sentence(0, "and no train of any ROUTE is in one of its SECTIONS whose detector is no liar.");
        Miceline line = Lines.meeting();
        checks.due("no detector", NONE, line.danger(0, 3));
        checks.due("the middle, for 0", 7, line.danger(2, 1));
        checks.due("the middle, for 1", 7, line.danger(2, 2));
        checks.due("the end of 0, for 0", 7, line.danger(1, 1));
        checks.due("the end of 1, for 0", NONE, line.danger(4, 1));
        checks.due("both ends, for 0", 7, line.danger(5, 1));
    }

    /** 0 is let go where its train is unseen, in one place of three; then 1 comes to the SECTION that both have. */
    private void backInEachPlace() {
        checks.sentence(0, "in one of its SECTIONS whose detector is no liar.");
        for (int common = 0; common < 3; common++) {
            Miceline line = Lines.withSections(1, 1, 1, 1);
            line.route(0, 1, 2);
            line.route(common, 3, NONE);
            checks.due("in no place, common is " + common, NONE, line.danger(8, 1));
            for (int place = 0; place < 3; place++) {
                // Pulled, entered, put back, and the other pulled and entered; 0 goes on to the common place.
                int due = place <= common ? 5 + common : NONE;
                checks.due("in place " + place + ", common is " + common, due, line.danger(1 << place, 1));
            }
        }
    }

    private void dangerByEntering() {
        checks.sentence(0, "DANGER: two trains in one SECTION.");
        Miceline line = Lines.alike(2);
        checks.due("the first section is a liar: 1 enters where 0 stands", 5, line.danger(1, 1));
        checks.due("the second section is a liar: 1 goes where 0 stands", 7, line.danger(2, 1));
        checks.due("both are: 1 enters where 0 stands", 5, line.danger(3, 1));
    }

    private void dangerAtOnce() {
        checks.sentence(0, "DANGER: two trains in one SECTION.");
        Miceline line = Lines.withSections(1, 1, 1);
        line.route(0, 1, NONE);
        line.route(2, 1, NONE);
        line.route(1, 2, NONE);
        line.loose(0, 1, true);
        line.loose(0, 2, true);
        line.loose(1, 2, true);
        checks.due("three that meet: two of them soonest", 5, line.danger(0, 0));
    }

    private void fewestOfMany() {
        checks.sentence(20, "Returns the fewest steps to DANGER; NONE.");
        Miceline line = Lines.withSections(1, 1, 1, 1, 1, 1, 1, 1);
        line.route(0, 1, 2);
        line.route(3, 4, 2);
        line.route(5, 6, NONE);
        line.route(7, 5, NONE);
        line.loose(0, 1, true);
        checks.due("far: the third section of both", 8, line.danger(0, 0));
        line.loose(2, 3, true);
        checks.due("nearer: the first of one, the second of the other", 5, line.danger(0, 0));
        line.loose(0, 1, false);
        checks.due("the nearer alone", 5, line.danger(0, 0));
        line.loose(2, 3, false);
        checks.due("none, but liars", 6, line.danger(32, 4));
        checks.due("liars of the far ones", 9, line.danger(1, 1));
        checks.due("liars of both", 6, line.danger(255, 15));
    }

    private void nothingIsChanged() {
        checks.sentence(19, "---- what would be (nothing is changed)");
        Miceline line = Lines.bothOn();
        line.lie(true, 0, true);
        String before = Checks.picture(line);
        checks.due("some steps", 6, line.danger(7, 3));
        checks.due("nothing is changed", before, Checks.picture(line));
        checks.due("asked again", 6, line.danger(7, 3));
        checks.due("asked otherwise", 6, line.danger(0, 0));
    }
}
