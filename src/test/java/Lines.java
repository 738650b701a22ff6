/** The lines that the tests start from. */
final class Lines {
    static final int NONE = -1;
    static final int MOST = Integer.MAX_VALUE;
    static final int LEAST = Integer.MIN_VALUE;

    private Lines() {
    }

    static Miceline withSections(int... lengths) {
        Miceline line = new Miceline();
        for (int length : lengths) {
            line.section(length);
        }
        return line;
    }

    /** Three SECTIONS of 2 tails, and two ROUTES from both ends that meet in the middle one. */
    static Miceline meeting() {
        Miceline line = withSections(2, 2, 2);
        line.route(0, 1, NONE);
        line.route(2, 1, NONE);
        return line;
    }

    /** The meeting, with both trains of 1 tail ON by a LOOSE lock: each in its own first SECTION. */
    static Miceline bothOn() {
        Miceline line = meeting();
        line.loose(0, 1, true);
        for (int route = 0; route < 2; route++) {
            line.train(route, 1, 1);
            line.pull(route);
            line.enter(route);
        }
        return line;
    }

    /** Two SECTIONS of 1 tail, and so many ROUTES with the same row of both: all of them are FOES. */
    static Miceline alike(int routes) {
        Miceline line = withSections(1, 1);
        for (int route = 0; route < routes; route++) {
            line.route(0, 1, NONE);
        }
        return line;
    }

    /** Two ROUTES of two SECTIONS that have none in common. */
    static Miceline apart() {
        Miceline line = withSections(1, 1, 1, 1);
        line.route(0, 1, NONE);
        line.route(2, 3, NONE);
        return line;
    }

    /** A train of this LENGTH, ON with its NOSE at 1, on a ROUTE through SECTIONS of these LENGTHS. */
    static Miceline trainOn(int length, int... lengths) {
        Miceline line = withSections(lengths);
        line.route(0, 1, lengths.length > 2 ? 2 : NONE);
        line.train(0, length, 1);
        line.pull(0);
        line.enter(0);
        return line;
    }

    /** As much of everything as there may be: all are FOES with LOOSE locks and PULLED, all LIE, CATS sit all over. */
    static Miceline full() {
        Miceline line = withSections(5, 5, 5, 5, 5, 5, 5, 5);
        line.route(0, 1, 2);
        line.route(3, 2, 1);
        line.route(4, 5, 2);
        line.route(6, 7, 2);
        setAllLoose(line, 4);
        for (int train = 0; train < 10; train++) {
            line.train(train % 4, 6, 5);
        }
        for (int route = 0; route < 4; route++) {
            line.pull(route);
            line.lie(true, route, true);
        }
        for (int section = 0; section < 8; section++) {
            line.cat(section, true);
            line.lie(false, section, true);
        }
        return line;
    }

    /** Makes the locks between these many ROUTES LOOSE, of which each two are FOES. */
    static void setAllLoose(Miceline line, int routes) {
        for (int other = 0; other < routes; other++) {
            for (int one = 0; one < other; one++) {
                line.loose(one, other, true);
            }
        }
    }

    /** Lets time go by up to the last MINUTE but so many. */
    static void passUpTo(Miceline line, int left) {
        int due = 9999 - left - line.line(7);
        for (; due > 99; due -= 99) {
            line.pass(99);
        }
        if (due > 0) {
            line.pass(due);
        }
    }
}
