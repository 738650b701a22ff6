/** danger() of many frames of all shapes, with liars and loose locks, as Plain finds it by another way. */
public final class DangerTest {
    private static final int FRAMES = 400;
    private static final int LIARS = 10;

    private final Checks checks = new Checks("DangerTest");
    private long seed = 20261119L;

    public static void main(String[] args) {
        DangerTest test = new DangerTest();
        for (int frame = 0; frame < FRAMES; frame++) {
            test.compare(frame);
        }
        test.checks.end();
    }

    private int any(int bound) {
        seed = seed * 6364136223846793005L + 1442695040888963407L;
        return (int) ((seed >>> 33) % bound);
    }

    private void compare(int frame) {
        Miceline line = new Miceline();
        Plain plain = new Plain();
        int sections = 2 + any(7);
        for (int k = 0; k < sections; k++) {
            line.section(1);
            plain.section(1);
        }
        for (int k = 1 + any(8); k > 0 && line.line(1) < 4; k--) {
            tellRoute(line, plain, any(sections), any(sections), any(3) == 0 ? -1 : any(sections));
        }
        for (int k = any(4) * line.line(13); k > 0; k--) {
            setLoose(line, plain, any(line.line(1)), any(line.line(1)), any(2) == 0);
        }
        for (int k = 0; k < LIARS; k++) {
            int detectors = any(1 << sections) | any(3) / 2 * any(1 << sections);
            int counters = any(1 << line.line(1));
            checks.due("frame " + frame + ": danger(" + detectors + ", " + counters + ")",
                    plain.danger(detectors, counters), line.danger(detectors, counters));
        }
    }

    private static void tellRoute(Miceline line, Plain plain, int first, int second, int third) {
        if (first != second && second != third && first != third) {
            line.route(first, second, third);
            plain.route(first, second, third);
        }
    }

    private static void setLoose(Miceline line, Plain plain, int one, int other, boolean is) {
        if ((line.ofRoute(one, 4) >> other) % 2 == 1) {
            line.loose(one, other, is);
            plain.loose(one, other, is);
        }
    }
}
