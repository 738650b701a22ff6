import java.util.ArrayDeque;
import java.util.ArrayList;
import java.util.Arrays;
import java.util.HashMap;
import java.util.List;
import java.util.Map;

/** The document once more, written apart from Miceline and as slowly as it reads, to compare answers with. */
final class Plain {
    /** Thrown where the document wants an exception; the text is its name. */
    static final class Refusal extends RuntimeException {
        private static final long serialVersionUID = 1L;

        Refusal(String name) {
            super(name);
        }
    }

    private static final class Mouse {
        int route;
        int length;
        int taste;
        int came;
        int is;
        int nose;
        int paid;
    }

    private final List<Integer> lengths = new ArrayList<>();
    private final List<int[]> rows = new ArrayList<>();
    private final List<Mouse> mice = new ArrayList<>();
    private final boolean[] cat = new boolean[8];
    private final boolean[] detectorLies = new boolean[8];
    private final boolean[] counterLies = new boolean[4];
    private final boolean[] pulled = new boolean[4];
    private final boolean[] used = new boolean[4];
    private final boolean[][] loose = new boolean[4][4];
    private final int[] tried = new int[4];
    private final int[] last = {-1, -1, -1, -1, -1, -1, -1, -1};
    private int minute;
    private int cheese;
    private int clashes;
    private int mostLied;
    private boolean wasLoose;
    private int knocks;

    private static void index(boolean is) {
        refuse(is, "IndexOutOfBoundsException");
    }

    private static void argument(boolean is) {
        refuse(is, "IllegalArgumentException");
    }

    private static void state(boolean is) {
        refuse(is, "IllegalStateException");
    }

    private static void refuse(boolean is, String name) {
        if (is) {
            throw new Refusal(name);
        }
    }

    private static boolean out(int number, List<?> of) {
        return number < 0 || number >= of.size();
    }

    int section(int length) {
        argument(length < 1 || length > 5);
        state(lengths.size() == 8);
        lengths.add(length);
        return lengths.size() - 1;
    }

    int route(int first, int second, int third) {
        index(out(first, lengths) || out(second, lengths) || third != -1 && out(third, lengths));
        argument(first == second || second == third || first == third);
        state(rows.size() == 4);
        rows.add(third == -1 ? new int[] {first, second} : new int[] {first, second, third});
        return rows.size() - 1;
    }

    private boolean has(int route, int section) {
        for (int one : rows.get(route)) {
            if (one == section) {
                return true;
            }
        }
        return false;
    }

    private boolean foes(int one, int other) {
        for (int section = 0; section < lengths.size(); section++) {
            if (one != other && has(one, section) && has(other, section)) {
                return true;
            }
        }
        return false;
    }

    /** The SECTION of each tail of a WAY, from tail 1 on. */
    private List<Integer> way(int route) {
        List<Integer> tails = new ArrayList<>();
        for (int section : rows.get(route)) {
            for (int k = 0; k < lengths.get(section); k++) {
                tails.add(section);
            }
        }
        return tails;
    }

    private boolean[] inAt(Mouse mouse, int nose) {
        boolean[] in = new boolean[8];
        List<Integer> way = way(mouse.route);
        for (int tail = nose - mouse.length + 1; tail <= nose; tail++) {
            if (tail >= 1 && tail <= way.size()) {
                in[way.get(tail - 1)] = true;
            }
        }
        return in;
    }

    private boolean[] in(Mouse mouse) {
        return mouse.is == 1 ? inAt(mouse, mouse.nose) : new boolean[8];
    }

    private int howManyIn(int section) {
        int count = 0;
        for (Mouse mouse : mice) {
            count += in(mouse)[section] ? 1 : 0;
        }
        return count;
    }

    private int howManyOn(int route) {
        int count = 0;
        for (Mouse mouse : mice) {
            count += mouse.is == 1 && mouse.route == route ? 1 : 0;
        }
        return count;
    }

    private boolean detectorFull(int section) {
        return howManyIn(section) > 0 && !detectorLies[section];
    }

    private boolean counterFull(int route) {
        return howManyOn(route) > 0 && !counterLies[route];
    }

    private int holder(int route) {
        for (int foe = 0; foe < rows.size(); foe++) {
            if (foes(route, foe) && pulled[foe] && !loose[route][foe]) {
                return foe;
            }
        }
        return -1;
    }

    private int pullAnswer(int route) {
        if (holder(route) != -1) {
            return 1;
        }
        boolean full = false;
        boolean cats = false;
        for (int section : rows.get(route)) {
            full |= detectorFull(section);
            cats |= cat[section];
        }
        return full ? 2 : cats ? 3 : 0;
    }

    private int backAnswer(int route) {
        boolean full = false;
        for (int section : rows.get(route)) {
            full |= detectorFull(section);
        }
        return counterFull(route) ? 1 : full ? 2 : 0;
    }

    int pull(int route) {
        index(out(route, rows));
        state(pulled[route]);
        tried[route]++;
        int answer = pullAnswer(route);
        if (answer == 0) {
            pulled[route] = true;
            used[route] = false;
        }
        return answer;
    }

    int back(int route) {
        index(out(route, rows));
        state(!pulled[route]);
        tried[route]++;
        int answer = backAnswer(route);
        if (answer == 0) {
            pulled[route] = false;
        }
        return answer;
    }

    int lie(boolean isCounter, int which, boolean is) {
        index(out(which, isCounter ? rows : lengths));
        (isCounter ? counterLies : detectorLies)[which] = is;
        mostLied = Math.max(mostLied, trues(counterLies) + trues(detectorLies));
        return trues(counterLies) + trues(detectorLies);
    }

    private static int trues(boolean[] row) {
        int count = 0;
        for (boolean is : row) {
            count += is ? 1 : 0;
        }
        return count;
    }

    private int looseLocks() {
        int count = 0;
        for (boolean[] row : loose) {
            count += trues(row);
        }
        return count / 2;
    }

    int loose(int one, int other, boolean is) {
        index(out(one, rows) || out(other, rows));
        argument(!foes(one, other));
        state(!is && pulled[one] && pulled[other]);
        loose[one][other] = is;
        loose[other][one] = is;
        wasLoose = wasLoose || is;
        return looseLocks();
    }

    boolean cat(int section, boolean is) {
        index(out(section, lengths));
        boolean was = cat[section];
        cat[section] = is;
        return was;
    }

    int train(int route, int length, int taste) {
        index(out(route, rows));
        argument(length < 1 || length > 6 || taste < 1 || taste > 5);
        state(mice.size() == 10);
        Mouse mouse = new Mouse();
        mouse.route = route;
        mouse.length = length;
        mouse.taste = taste;
        mouse.came = minute;
        mice.add(mouse);
        return mice.size() - 1;
    }

    int enter(int train) {
        index(out(train, mice));
        Mouse mouse = mice.get(train);
        state(mouse.is != 0 || !pulled[mouse.route] || used[mouse.route]);
        used[mouse.route] = true;
        mouse.paid = mouse.taste * (minute - mouse.came);
        cheese += mouse.paid;
        mouse.is = 1;
        mouse.nose = 1;
        last[rows.get(mouse.route)[0]] = train;
        countClash(train);
        return mouse.paid;
    }

    private void countClash(int train) {
        for (int section = 0; section < 8; section++) {
            if (in(mice.get(train))[section] && howManyIn(section) > 1) {
                clashes++;
                return;
            }
        }
    }

    int go(int train, int tails) {
        index(out(train, mice));
        argument(tails < 1 || tails > 30);
        Mouse mouse = mice.get(train);
        state(mouse.is != 1);
        for (int k = 0; k < tails; k++) {
            boolean[] before = in(mouse);
            mouse.nose++;
            boolean[] now = in(mouse);
            for (int section = 0; section < 8; section++) {
                last[section] = now[section] && !before[section] ? train : last[section];
            }
            if (trues(now) == 0) {
                mouse.is = 2;
                return -1;
            }
            countClash(train);
        }
        return mouse.nose;
    }

    int pass(int minutes) {
        argument(minutes < 1 || minutes > 99);
        state(minute + minutes > 9999);
        return minute += minutes;
    }

    int knock() {
        return ++knocks;
    }

    private static int one(boolean is) {
        return is ? 1 : 0;
    }

    private static int set(boolean[] row) {
        int set = 0;
        for (int k = 0; k < row.length; k++) {
            set += row[k] ? Math.pow(2, k) : 0;
        }
        return set;
    }

    int ofSection(int section, int what) {
        index(out(section, lengths));
        argument(what < 0 || what > 6);
        boolean[] having = new boolean[rows.size()];
        for (int route = 0; route < rows.size(); route++) {
            having[route] = has(route, section);
        }
        return new int[] {lengths.get(section), howManyIn(section), one(detectorFull(section)),
            one(detectorLies[section]), one(cat[section]), set(having), last[section]}[what];
    }

    int ofRoute(int route, int what) {
        index(out(route, rows));
        argument(what < 0 || what > 9);
        boolean[] had = new boolean[8];
        for (int section : rows.get(route)) {
            had[section] = true;
        }
        boolean[] foes = new boolean[rows.size()];
        for (int other = 0; other < rows.size(); other++) {
            foes[other] = foes(route, other);
        }
        return new int[] {set(had), way(route).size(), one(pulled[route]), one(used[route]), set(foes),
            holder(route), howManyOn(route), one(counterFull(route)), one(counterLies[route]), tried[route]}[what];
    }

    int ofTrain(int train, int what) {
        index(out(train, mice));
        argument(what < 0 || what > 6);
        Mouse mouse = mice.get(train);
        int due = mouse.is == 0 ? mouse.taste * (minute - mouse.came) : mouse.paid;
        return new int[] {mouse.route, mouse.length, mouse.taste, mouse.is, mouse.is == 1 ? mouse.nose : -1,
            set(in(mouse)), due}[what];
    }

    private int howManyAre(int is) {
        int count = 0;
        for (Mouse mouse : mice) {
            count += one(mouse.is == is);
        }
        return count;
    }

    private int pairs() {
        int count = 0;
        for (int one = 0; one < rows.size(); one++) {
            for (int other = one + 1; other < rows.size(); other++) {
                count += one(foes(one, other));
            }
        }
        return count;
    }

    int line(int what) {
        argument(what < 0 || what > 16);
        return new int[] {lengths.size(), rows.size(), trues(pulled), mice.size(), howManyAre(0), howManyAre(1),
            howManyAre(2), minute, cheese, clashes, trues(counterLies) + trues(detectorLies), mostLied, trues(cat),
            pairs(), looseLocks(), one(wasLoose), knocks}[what];
    }

    String sight() {
        String all = "";
        for (int section = 0; section < lengths.size(); section++) {
            String sign = ".";
            for (int train = 0; train < mice.size(); train++) {
                if (in(mice.get(train))[section]) {
                    sign = howManyIn(section) > 1 ? "!" : "" + train;
                }
            }
            all += sign;
        }
        return all;
    }

    int would(int route, boolean isPull) {
        index(out(route, rows));
        if (isPull) {
            return pulled[route] ? -1 : pullAnswer(route);
        }
        return pulled[route] ? backAnswer(route) : -1;
    }

    int ahead(int train, int tails) {
        index(out(train, mice));
        argument(tails < 0 || tails > 30);
        state(mice.get(train).is != 1);
        return set(inAt(mice.get(train), mice.get(train).nose + tails));
    }

    int danger(int detectors, int counters) {
        argument(detectors < 0 || detectors >= Math.pow(2, lengths.size()));
        argument(counters < 0 || counters >= Math.pow(2, rows.size()));
        return fewest(detectors, counters);
    }

    /** A frame is three numbers a ROUTE: PULLED, USED, and where in its row its train is (-1 without one). */
    private int fewest(int detectors, int counters) {
        int[] first = new int[3 * rows.size()];
        for (int route = 0; route < rows.size(); route++) {
            first[3 * route + 2] = -1;
        }
        Map<String, Integer> seen = new HashMap<>();
        ArrayDeque<int[]> open = new ArrayDeque<>();
        seen.put(Arrays.toString(first), 0);
        open.add(first);
        while (!open.isEmpty()) {
            int[] frame = open.remove();
            int steps = seen.get(Arrays.toString(frame));
            if (isDanger(frame)) {
                return steps;
            }
            for (int[] next : after(frame, detectors, counters)) {
                if (seen.putIfAbsent(Arrays.toString(next), steps + 1) == null) {
                    open.add(next);
                }
            }
        }
        return -1;
    }

    private int placed(int[] frame, int section) {
        int count = 0;
        for (int route = 0; route < rows.size(); route++) {
            int place = frame[3 * route + 2];
            count += one(place != -1 && rows.get(route)[place] == section);
        }
        return count;
    }

    private boolean isDanger(int[] frame) {
        for (int section = 0; section < lengths.size(); section++) {
            if (placed(frame, section) >= 2) {
                return true;
            }
        }
        return false;
    }

    private List<int[]> after(int[] frame, int detectors, int counters) {
        List<int[]> all = new ArrayList<>();
        for (int route = 0; route < rows.size(); route++) {
            boolean isPulled = frame[3 * route] == 1;
            boolean isUsed = frame[3 * route + 1] == 1;
            int place = frame[3 * route + 2];
            boolean seen = false;
            for (int section : rows.get(route)) {
                seen |= placed(frame, section) > 0 && (detectors >> section) % 2 == 0;
            }
            boolean held = false;
            for (int foe = 0; foe < rows.size(); foe++) {
                held |= foes(route, foe) && frame[3 * foe] == 1 && !loose[route][foe];
            }
            if (!isPulled && place == -1 && !held && !seen) {
                all.add(changed(frame, route, 1, 0, -1));
            }
            if (isPulled && !isUsed) {
                all.add(changed(frame, route, 1, 1, 0));
            }
            if (place != -1) {
                int next = place + 1 == rows.get(route).length ? -1 : place + 1;
                all.add(changed(frame, route, frame[3 * route], frame[3 * route + 1], next));
            }
            if (isPulled && (place == -1 || (counters >> route) % 2 == 1) && !seen) {
                all.add(changed(frame, route, 0, frame[3 * route + 1], place));
            }
        }
        return all;
    }

    private static int[] changed(int[] frame, int route, int isPulled, int isUsed, int place) {
        int[] next = frame.clone();
        next[3 * route] = isPulled;
        next[3 * route + 1] = isUsed;
        next[3 * route + 2] = place;
        return next;
    }

    boolean isSound() {
        if (mostLied < 2 && !wasLoose && clashes > 0) {
            return false;
        }
        int detectors = (int) Math.pow(2, lengths.size()) - 1;
        int counters = (int) Math.pow(2, rows.size()) - 1;
        if (looseLocks() == 0 && (fewest(detectors, 0) != -1 || fewest(0, counters) != -1)) {
            return false;
        }
        for (int route = 0; route < rows.size(); route++) {
            if (pulled[route] && holder(route) != -1) {
                return false;
            }
        }
        int sum = 0;
        for (Mouse mouse : mice) {
            sum += mouse.paid;
        }
        return sum == cheese && howManyAre(0) + howManyAre(1) + howManyAre(2) == mice.size();
    }

    long digest() {
        List<Long> all = new ArrayList<>();
        for (int what = 0; what <= 16; what++) {
            all.add((long) line(what));
        }
        for (int section = 0; section < lengths.size(); section++) {
            for (int what = 0; what <= 6; what++) {
                all.add((long) ofSection(section, what));
            }
        }
        for (int route = 0; route < rows.size(); route++) {
            for (int what = 0; what <= 9; what++) {
                all.add((long) ofRoute(route, what));
            }
            all.add((long) would(route, true));
            all.add((long) would(route, false));
        }
        for (int train = 0; train < mice.size(); train++) {
            for (int what = 0; what <= 6; what++) {
                all.add((long) ofTrain(train, what));
            }
        }
        all.add((long) fewest((int) Math.pow(2, lengths.size()) - 1, (int) Math.pow(2, rows.size()) - 1));
        all.add((long) fewest(0, 0));
        all.add((long) sight().length());
        all.add((long) one(isSound()));
        long d = 9103;
        for (long v : all) {
            d = d * 31 + v;
        }
        return d;
    }
}
