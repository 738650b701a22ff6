import java.util.ArrayList;
import java.util.Arrays;

/**
 * A railway run by mice: sections and routes, a frame of levers, trains that go tail by tail, and the
 * proof that tells by which fewest steps liars and loose locks come to danger.
 */
public final class Miceline {
    private static final int NONE = -1;

    private static final int MOST_SECTIONS = 8;
    private static final int MOST_ROUTES = 4;
    private static final int MOST_TRAINS = 10;
    private static final int LONGEST_SECTION = 5;
    private static final int LONGEST_TRAIN = 6;
    private static final int MOST_TASTE = 5;
    private static final int MOST_TAILS = 30;
    private static final int MOST_MINUTES = 99;
    private static final int LAST_MINUTE = 9999;

    private static final int LAST_OF_SECTION = 6;
    private static final int LAST_OF_ROUTE = 9;
    private static final int LAST_OF_TRAIN = 6;
    private static final int LAST_OF_LINE = 16;

    private static final int WAITS = 0;
    private static final int ON = 1;
    private static final int LEFT = 2;

    private static final int DONE = 0;
    private static final int PULL_HELD = 1;
    private static final int PULL_DETECTOR = 2;
    private static final int PULL_CAT = 3;
    private static final int BACK_COUNTER = 1;
    private static final int BACK_DETECTOR = 2;

    private static final long DIGEST_START = 9103L;
    private static final long DIGEST_FACTOR = 31L;

    private final ArrayList<Section> sections;
    private final ArrayList<Route> routes;
    private final ArrayList<Train> trains;
    private final Proof proof;
    private int lyingDetectors;
    private int lyingCounters;
    private int cats;
    private int minute;
    private int paid;
    private int clashes;
    private int mostLied;
    private boolean everLoose;
    private int refused;

    /** A SECTION with the ENQUIRY's note of it; its bit is the set of it alone. */
    private static final class Section {
        final int bit;
        final int length;
        int lastTrain;

        Section(int number, int length) {
            this.bit = 1 << number;
            this.length = length;
            this.lastTrain = NONE;
        }
    }

    /** A ROUTE with its LEVER and its side of the locks; its bit is the set of it alone. */
    private static final class Route {
        final int number;
        final int bit;
        final Section[] row;
        final int sectionSet;
        final int way;
        int foes;
        int loose;
        boolean pulled;
        boolean used;
        int tried;

        Route(int number, Section[] row) {
            this.number = number;
            this.bit = 1 << number;
            this.row = row;
            int set = 0;
            int tails = 0;
            for (Section section : row) {
                set |= section.bit;
                tails += section.length;
            }
            this.sectionSet = set;
            this.way = tails;
        }

        boolean isFoe(Route other) {
            return (foes & other.bit) != 0;
        }

        /** The FOES whose lock with this ROUTE is not LOOSE. */
        int lockedFoes() {
            return foes & ~loose;
        }

        void setLoose(Route other, boolean is) {
            loose = withBit(loose, other.bit, is);
        }

        /** The SECTION at a place of the row (1 for the first one) as a set; empty, if there is none. */
        int setAt(int place) {
            return place >= 1 && place <= row.length ? row[place - 1].bit : 0;
        }
    }

    /** A train, which WAITS at first. */
    private static final class Train {
        final int number;
        final Route route;
        final int length;
        final int taste;
        final int came;
        int state;
        int nose;
        int covered;
        int paid;

        Train(int number, Route route, int length, int taste, int came) {
            this.number = number;
            this.route = route;
            this.length = length;
            this.taste = taste;
            this.came = came;
            this.state = WAITS;
        }

        /** The set of SECTIONS that it is IN, if its NOSE is at this tail. */
        int coveredAt(int tail) {
            int set = 0;
            int end = 0;
            for (Section section : route.row) {
                int start = end + 1;
                end += section.length;
                if (start <= tail && end > tail - length) {
                    set |= section.bit;
                }
            }
            return set;
        }

        /** Puts its NOSE at a tail, and answers the set of SECTIONS that it came to be IN by that. */
        int comeTo(int tail) {
            int before = covered;
            nose = tail;
            covered = coveredAt(tail);
            state = covered == 0 ? LEFT : ON;
            return covered & ~before;
        }

        /** What it is paid, if it ENTERS in this MINUTE. */
        int due(int minute) {
            return taste * (minute - came);
        }
    }

    /**
     * The frame by itself, searched step by step. A state has four bits for each ROUTE: below, the place of
     * its train in the row (0 without one), and above, its LEVER.
     */
    private static final class Proof {
        private static final int BITS = 4;
        private static final int PLACE_BITS = 2;
        private static final int CODE_MASK = 15;
        private static final int LEVER_MASK = 3;
        private static final int PLACE_MASK = 3;

        // USED matters only while PULLED, since a PULL takes it away: so a LEVER has three ways to be.
        private static final int LEVER_BACK = 0;
        private static final int LEVER_FRESH = 1;
        private static final int LEVER_USED = 2;

        // No train is on a ROUTE whose LEVER is fresh, so each of 4 ROUTES has 9 codes: 3 without a train,
        // and BACK or used with it in one of 3 places.
        private static final int MOST_STATES = 9 * 9 * 9 * 9;
        private static final int WORD_SHIFT = 6;
        private static final int WORDS = 1024;

        private final int[] states;
        private final long[] reached;
        private int count;
        private int honestDetectors;
        private int liarCounters;
        private int state;
        private int pulled;
        private int occupied;

        Proof() {
            states = new int[MOST_STATES];
            reached = new long[WORDS];
        }

        /** The fewest steps to DANGER with these liars; NONE, if it is never come to. */
        int fewestSteps(ArrayList<Route> routes, int detectors, int counters) {
            honestDetectors = ~detectors;
            liarCounters = counters;
            Arrays.fill(reached, 0L);
            count = 0;
            reach(0);
            int steps = 0;
            int nextDistance = 0;
            for (int at = 0; at < MOST_STATES && at < count; at++) {
                // Here the states of the next distance begin, and none of a later one is there yet.
                if (at == nextDistance) {
                    steps++;
                    nextDistance = count;
                }
                takeUp(routes, states[at]);
                if (comesToDanger(routes)) {
                    return steps;
                }
            }
            return NONE;
        }

        /** Makes a state the one that the next steps start from. */
        private void takeUp(ArrayList<Route> routes, int from) {
            state = from;
            pulled = 0;
            occupied = 0;
            for (int k = 0; k < routes.size(); k++) {
                Route route = routes.get(k);
                if (leverOf(route) != LEVER_BACK) {
                    pulled |= route.bit;
                }
                occupied |= route.setAt(placeOf(route));
            }
        }

        private boolean comesToDanger(ArrayList<Route> routes) {
            for (int k = 0; k < routes.size(); k++) {
                Route route = routes.get(k);
                int lever = leverOf(route);
                int place = placeOf(route);
                stepLever(route, lever, place);
                if (stepsIntoDanger(route, lever, place)) {
                    return true;
                }
            }
            return false;
        }

        private void stepLever(Route route, int lever, int place) {
            if ((occupied & honestDetectors & route.sectionSet) != 0) {
                return;
            }
            if (lever == LEVER_BACK) {
                if (place == 0 && (pulled & route.lockedFoes()) == 0) {
                    reach(with(route, LEVER_FRESH, place));
                }
            } else if (place == 0 || (liarCounters & route.bit) != 0) {
                reach(with(route, LEVER_BACK, place));
            }
        }

        /** Moves the train of a ROUTE, and answers whether another one is in the SECTION that it comes to. */
        private boolean stepsIntoDanger(Route route, int lever, int place) {
            if (place == 0 && lever != LEVER_FRESH) {
                return false;
            }
            int next = place < route.row.length ? place + 1 : 0;
            if ((occupied & route.setAt(next)) != 0) {
                return true;
            }
            reach(with(route, place == 0 ? LEVER_USED : lever, next));
            return false;
        }

        private int leverOf(Route route) {
            return state >> (BITS * route.number + PLACE_BITS) & LEVER_MASK;
        }

        private int placeOf(Route route) {
            return state >> (BITS * route.number) & PLACE_MASK;
        }

        private int with(Route route, int lever, int place) {
            int shift = BITS * route.number;
            int code = lever << PLACE_BITS | place;
            return state & ~(CODE_MASK << shift) | code << shift;
        }

        private void reach(int next) {
            int word = next >> WORD_SHIFT & WORDS - 1;
            long bit = 1L << next;
            if (count < MOST_STATES && (reached[word] & bit) == 0L) {
                reached[word] |= bit;
                states[count] = next;
                count++;
            }
        }
    }

    public Miceline() {
        sections = new ArrayList<>();
        routes = new ArrayList<>();
        trains = new ArrayList<>();
        proof = new Proof();
    }

    // ---- the line

    public int section(int length) throws IllegalArgumentException, IllegalStateException {
        if (length < 1 || length > LONGEST_SECTION) {
            throw new IllegalArgumentException("the length of a section is 1 to 5");
        }
        int number = sections.size();
        if (number >= MOST_SECTIONS) {
            throw new IllegalStateException("there are 8 sections");
        }
        sections.add(new Section(number, length));
        return number;
    }

    public int route(int first, int second, int third)
            throws IndexOutOfBoundsException, IllegalArgumentException, IllegalStateException {
        boolean isShort = third == NONE;
        if (!isSection(first) || !isSection(second) || !isShort && !isSection(third)) {
            throw new IndexOutOfBoundsException("no such section");
        }
        if (first == second || first == third || second == third) {
            throw new IllegalArgumentException("the sections of a route are unlike");
        }
        int number = routes.size();
        if (number >= MOST_ROUTES) {
            throw new IllegalStateException("there are 4 routes");
        }
        Section[] row = new Section[isShort ? 2 : 3];
        row[0] = sections.get(first);
        row[1] = sections.get(second);
        if (!isShort) {
            row[2] = sections.get(third);
        }
        Route told = new Route(number, row);
        makeFoes(told);
        routes.add(told);
        return number;
    }

    private void makeFoes(Route told) {
        for (int k = 0; k < routes.size(); k++) {
            Route other = routes.get(k);
            if ((told.sectionSet & other.sectionSet) != 0) {
                told.foes |= other.bit;
                other.foes |= told.bit;
            }
        }
    }

    private boolean isSection(int section) {
        return section >= 0 && section < sections.size();
    }

    private boolean isRoute(int route) {
        return route >= 0 && route < routes.size();
    }

    private boolean isTrain(int train) {
        return train >= 0 && train < trains.size();
    }

    // ---- the frame

    public int pull(int route) throws IndexOutOfBoundsException, IllegalStateException {
        if (!isRoute(route)) {
            throw new IndexOutOfBoundsException("no such route");
        }
        Route tried = routes.get(route);
        if (tried.pulled) {
            throw new IllegalStateException("the lever is pulled");
        }
        tried.tried++;
        int why = whyNotPulled(tried);
        if (why == DONE) {
            tried.pulled = true;
            tried.used = false;
        }
        return why;
    }

    public int back(int route) throws IndexOutOfBoundsException, IllegalStateException {
        if (!isRoute(route)) {
            throw new IndexOutOfBoundsException("no such route");
        }
        Route tried = routes.get(route);
        if (!tried.pulled) {
            throw new IllegalStateException("the lever is back");
        }
        tried.tried++;
        int why = whyNotBack(tried);
        if (why == DONE) {
            tried.pulled = false;
        }
        return why;
    }

    private int whyNotPulled(Route route) {
        if (holderOf(route) != NONE) {
            return PULL_HELD;
        }
        if (isSeenFull(route)) {
            return PULL_DETECTOR;
        }
        return (cats & route.sectionSet) != 0 ? PULL_CAT : DONE;
    }

    private int whyNotBack(Route route) {
        if (isCountedFull(route)) {
            return BACK_COUNTER;
        }
        return isSeenFull(route) ? BACK_DETECTOR : DONE;
    }

    private int holderOf(Route route) {
        int locked = route.lockedFoes();
        for (int k = 0; k < routes.size(); k++) {
            Route other = routes.get(k);
            if (other.pulled && (locked & other.bit) != 0) {
                return k;
            }
        }
        return NONE;
    }

    private boolean isSeenFull(Route route) {
        return (sectionsShownFull() & route.sectionSet) != 0;
    }

    private int sectionsShownFull() {
        int set = 0;
        for (int k = 0; k < trains.size(); k++) {
            set |= trains.get(k).covered;
        }
        return set & ~lyingDetectors;
    }

    private boolean isCountedFull(Route route) {
        return (lyingCounters & route.bit) == 0 && countOn(route) > 0;
    }

    private int countOn(Route route) {
        int count = 0;
        for (int k = 0; k < trains.size(); k++) {
            Train train = trains.get(k);
            if (train.state == ON && train.route == route) {
                count++;
            }
        }
        return count;
    }

    public int lie(boolean isCounter, int which, boolean is) throws IndexOutOfBoundsException {
        if (isCounter ? !isRoute(which) : !isSection(which)) {
            throw new IndexOutOfBoundsException("no such counter or detector");
        }
        if (isCounter) {
            lyingCounters = withBit(lyingCounters, 1 << which, is);
        } else {
            lyingDetectors = withBit(lyingDetectors, 1 << which, is);
        }
        int lying = countLying();
        mostLied = Math.max(mostLied, lying);
        return lying;
    }

    public int loose(int one, int other, boolean is)
            throws IndexOutOfBoundsException, IllegalArgumentException, IllegalStateException {
        if (!isRoute(one) || !isRoute(other)) {
            throw new IndexOutOfBoundsException("no such route");
        }
        Route route = routes.get(one);
        Route foe = routes.get(other);
        if (!route.isFoe(foe)) {
            throw new IllegalArgumentException("the routes are no foes");
        }
        if (!is && route.pulled && foe.pulled) {
            throw new IllegalStateException("both levers are pulled");
        }
        route.setLoose(foe, is);
        foe.setLoose(route, is);
        everLoose = everLoose || is;
        return countLoose();
    }

    public boolean cat(int section, boolean is) throws IndexOutOfBoundsException {
        if (!isSection(section)) {
            throw new IndexOutOfBoundsException("no such section");
        }
        int bit = 1 << section;
        boolean was = (cats & bit) != 0;
        cats = withBit(cats, bit, is);
        return was;
    }

    private static int withBit(int set, int bit, boolean is) {
        return is ? set | bit : set & ~bit;
    }

    // ---- trains

    public int train(int route, int length, int taste)
            throws IndexOutOfBoundsException, IllegalArgumentException, IllegalStateException {
        if (!isRoute(route)) {
            throw new IndexOutOfBoundsException("no such route");
        }
        if (length < 1 || length > LONGEST_TRAIN || taste < 1 || taste > MOST_TASTE) {
            throw new IllegalArgumentException("the length of a train is 1 to 6, its taste 1 to 5");
        }
        int number = trains.size();
        if (number >= MOST_TRAINS) {
            throw new IllegalStateException("there are 10 trains");
        }
        trains.add(new Train(number, routes.get(route), length, taste, minute));
        return number;
    }

    public int enter(int train) throws IndexOutOfBoundsException, IllegalStateException {
        if (!isTrain(train)) {
            throw new IndexOutOfBoundsException("no such train");
        }
        Train entering = trains.get(train);
        Route route = entering.route;
        if (entering.state != WAITS || !route.pulled || route.used) {
            throw new IllegalStateException("it does not wait, or can not enter");
        }
        route.used = true;
        entering.paid = entering.due(minute);
        paid += entering.paid;
        bring(entering, 1);
        return entering.paid;
    }

    public int go(int train, int tails)
            throws IndexOutOfBoundsException, IllegalArgumentException, IllegalStateException {
        if (!isTrain(train)) {
            throw new IndexOutOfBoundsException("no such train");
        }
        if (tails < 1 || tails > MOST_TAILS) {
            throw new IllegalArgumentException("it goes 1 to 30 tails");
        }
        Train going = trains.get(train);
        if (going.state != ON) {
            throw new IllegalStateException("it is not on");
        }
        for (int k = 0; k < tails && going.state == ON; k++) {
            bring(going, going.nose + 1);
        }
        return noseOf(going);
    }

    /** Brings a train to a tail, tells the ENQUIRY of it, and counts a CLASH that this makes. */
    private void bring(Train train, int tail) {
        int entered = train.comeTo(tail);
        for (Section section : train.route.row) {
            if ((entered & section.bit) != 0) {
                section.lastTrain = train.number;
            }
        }
        if (meetsAnother(train)) {
            clashes++;
        }
    }

    private boolean meetsAnother(Train train) {
        for (int k = 0; k < trains.size(); k++) {
            Train other = trains.get(k);
            if (other != train && (other.covered & train.covered) != 0) {
                return true;
            }
        }
        return false;
    }

    private int noseOf(Train train) {
        return train.state == ON ? train.nose : NONE;
    }

    public int pass(int minutes) throws IllegalArgumentException, IllegalStateException {
        if (minutes < 1 || minutes > MOST_MINUTES) {
            throw new IllegalArgumentException("1 to 99 minutes go by");
        }
        if (minute + minutes > LAST_MINUTE) {
            throw new IllegalStateException("the last minute is 9999");
        }
        minute += minutes;
        return minute;
    }

    public int knock() {
        refused++;
        return refused;
    }

    // ---- what is asked

    public int ofSection(int section, int what) throws IndexOutOfBoundsException, IllegalArgumentException {
        if (!isSection(section)) {
            throw new IndexOutOfBoundsException("no such section");
        }
        if (what < 0 || what > LAST_OF_SECTION) {
            throw new IllegalArgumentException("of a section 0 to 6 is asked");
        }
        return tellOfSection(sections.get(section), what);
    }

    private int tellOfSection(Section section, int what) {
        switch (what) {
            case 0:
                return section.length;
            case 1:
                return countIn(section);
            case 2:
                return oneIf((sectionsShownFull() & section.bit) != 0);
            case 3:
                return oneIf((lyingDetectors & section.bit) != 0);
            case 4:
                return oneIf((cats & section.bit) != 0);
            case 5:
                return routesWith(section);
            default:
                return section.lastTrain;
        }
    }

    private int countIn(Section section) {
        int count = 0;
        for (int k = 0; k < trains.size(); k++) {
            count += oneIf((trains.get(k).covered & section.bit) != 0);
        }
        return count;
    }

    private int routesWith(Section section) {
        int set = 0;
        for (int k = 0; k < routes.size(); k++) {
            Route route = routes.get(k);
            if ((route.sectionSet & section.bit) != 0) {
                set |= route.bit;
            }
        }
        return set;
    }

    public int ofRoute(int route, int what) throws IndexOutOfBoundsException, IllegalArgumentException {
        if (!isRoute(route)) {
            throw new IndexOutOfBoundsException("no such route");
        }
        if (what < 0 || what > LAST_OF_ROUTE) {
            throw new IllegalArgumentException("of a route 0 to 9 is asked");
        }
        return tellOfRoute(routes.get(route), what);
    }

    private int tellOfRoute(Route route, int what) {
        switch (what) {
            case 0:
                return route.sectionSet;
            case 1:
                return route.way;
            case 2:
                return oneIf(route.pulled);
            case 3:
                return oneIf(route.used);
            case 4:
                return route.foes;
            case 5:
                return holderOf(route);
            case 6:
                return countOn(route);
            case 7:
                return oneIf(isCountedFull(route));
            case 8:
                return oneIf((lyingCounters & route.bit) != 0);
            default:
                return route.tried;
        }
    }

    public int ofTrain(int train, int what) throws IndexOutOfBoundsException, IllegalArgumentException {
        if (!isTrain(train)) {
            throw new IndexOutOfBoundsException("no such train");
        }
        if (what < 0 || what > LAST_OF_TRAIN) {
            throw new IllegalArgumentException("of a train 0 to 6 is asked");
        }
        return tellOfTrain(trains.get(train), what);
    }

    private int tellOfTrain(Train train, int what) {
        switch (what) {
            case 0:
                return train.route.number;
            case 1:
                return train.length;
            case 2:
                return train.taste;
            case 3:
                return train.state;
            case 4:
                return noseOf(train);
            case 5:
                return train.covered;
            default:
                return train.state == WAITS ? train.due(minute) : train.paid;
        }
    }

    public int line(int what) throws IllegalArgumentException {
        if (what < 0 || what > LAST_OF_LINE) {
            throw new IllegalArgumentException("of the line 0 to 16 is asked");
        }
        return tellOfLine(what);
    }

    private int tellOfLine(int what) {
        switch (what) {
            case 0:
                return sections.size();
            case 1:
                return routes.size();
            case 2:
                return countPulled();
            case 3:
                return trains.size();
            case 4:
                return countTrains(WAITS);
            case 5:
                return countTrains(ON);
            case 6:
                return countTrains(LEFT);
            case 7:
                return minute;
            case 8:
                return paid;
            case 9:
                return clashes;
            case 10:
                return countLying();
            case 11:
                return mostLied;
            case 12:
                return Integer.bitCount(cats);
            case 13:
                return countFoes();
            case 14:
                return countLoose();
            case 15:
                return oneIf(everLoose);
            default:
                return refused;
        }
    }

    private int oneIf(boolean is) {
        return is ? 1 : 0;
    }

    private int countPulled() {
        int count = 0;
        for (int k = 0; k < routes.size(); k++) {
            count += oneIf(routes.get(k).pulled);
        }
        return count;
    }

    private int countTrains(int state) {
        int count = 0;
        for (int k = 0; k < trains.size(); k++) {
            count += oneIf(trains.get(k).state == state);
        }
        return count;
    }

    private int countLying() {
        return Integer.bitCount(lyingDetectors) + Integer.bitCount(lyingCounters);
    }

    private int countFoes() {
        int sides = 0;
        for (int k = 0; k < routes.size(); k++) {
            sides += Integer.bitCount(routes.get(k).foes);
        }
        return sides / 2;
    }

    private int countLoose() {
        int sides = 0;
        for (int k = 0; k < routes.size(); k++) {
            sides += Integer.bitCount(routes.get(k).loose);
        }
        return sides / 2;
    }

    public String sight() {
        StringBuilder signs = new StringBuilder();
        for (int k = 0; k < sections.size(); k++) {
            signs.append(signOf(sections.get(k)));
        }
        return signs.toString();
    }

    private char signOf(Section section) {
        char sign = '.';
        for (int k = 0; k < trains.size(); k++) {
            if ((trains.get(k).covered & section.bit) != 0) {
                sign = sign == '.' ? (char) ('0' + k) : '!';
            }
        }
        return sign;
    }

    // ---- what would be

    public int would(int route, boolean isPull) throws IndexOutOfBoundsException {
        if (!isRoute(route)) {
            throw new IndexOutOfBoundsException("no such route");
        }
        return answerIfTried(routes.get(route), isPull);
    }

    private int answerIfTried(Route route, boolean isPull) {
        if (route.pulled == isPull) {
            return NONE;
        }
        return isPull ? whyNotPulled(route) : whyNotBack(route);
    }

    public int danger(int detectors, int counters) throws IllegalArgumentException {
        if ((detectors & ~allSections()) != 0 || (counters & ~allRoutes()) != 0) {
            throw new IllegalArgumentException("no set of sections, or none of routes");
        }
        return proof.fewestSteps(routes, detectors, counters);
    }

    private int allSections() {
        return (1 << sections.size()) - 1;
    }

    private int allRoutes() {
        return (1 << routes.size()) - 1;
    }

    public int ahead(int train, int tails)
            throws IndexOutOfBoundsException, IllegalArgumentException, IllegalStateException {
        if (!isTrain(train)) {
            throw new IndexOutOfBoundsException("no such train");
        }
        if (tails < 0 || tails > MOST_TAILS) {
            throw new IllegalArgumentException("0 to 30 tails are asked");
        }
        Train asked = trains.get(train);
        if (asked.state != ON) {
            throw new IllegalStateException("it is not on");
        }
        return asked.coveredAt(asked.nose + tails);
    }

    public boolean isSound() {
        return isFreeOfClashes() && isProved() && isLocked() && isCounted();
    }

    private boolean isFreeOfClashes() {
        return mostLied >= 2 || everLoose || clashes == 0;
    }

    private boolean isProved() {
        if (countLoose() > 0) {
            return true;
        }
        return proof.fewestSteps(routes, allSections(), 0) == NONE
                && proof.fewestSteps(routes, 0, allRoutes()) == NONE;
    }

    private boolean isLocked() {
        for (int k = 0; k < routes.size(); k++) {
            Route route = routes.get(k);
            if (route.pulled && holderOf(route) != NONE) {
                return false;
            }
        }
        return true;
    }

    private boolean isCounted() {
        int sum = 0;
        for (int k = 0; k < trains.size(); k++) {
            sum += trains.get(k).paid;
        }
        return sum == paid && countTrains(WAITS) + countTrains(ON) + countTrains(LEFT) == trains.size();
    }

    public long digest() {
        long d = DIGEST_START;
        for (int what = 0; what <= LAST_OF_LINE; what++) {
            d = mix(d, tellOfLine(what));
        }
        d = mixSections(d);
        d = mixRoutes(d);
        d = mixTrains(d);
        d = mix(d, proof.fewestSteps(routes, allSections(), allRoutes()));
        d = mix(d, proof.fewestSteps(routes, 0, 0));
        d = mix(d, sight().length());
        return mix(d, oneIf(isSound()));
    }

    private long mix(long d, int v) {
        return d * DIGEST_FACTOR + v;
    }

    private long mixSections(long start) {
        long d = start;
        for (int k = 0; k < sections.size(); k++) {
            for (int what = 0; what <= LAST_OF_SECTION; what++) {
                d = mix(d, tellOfSection(sections.get(k), what));
            }
        }
        return d;
    }

    private long mixRoutes(long start) {
        long d = start;
        for (int k = 0; k < routes.size(); k++) {
            Route route = routes.get(k);
            for (int what = 0; what <= LAST_OF_ROUTE; what++) {
                d = mix(d, tellOfRoute(route, what));
            }
            d = mix(d, answerIfTried(route, true));
            d = mix(d, answerIfTried(route, false));
        }
        return d;
    }

    private long mixTrains(long start) {
        long d = start;
        for (int k = 0; k < trains.size(); k++) {
            for (int what = 0; what <= LAST_OF_TRAIN; what++) {
                d = mix(d, tellOfTrain(trains.get(k), what));
            }
        }
        return d;
    }
}
