/**
 * Long runs of calls, the same on Miceline and on Plain: each answer, and each exception, must be the same. And one
 * that hears neither what throws nor what only asks looks the same at last: so these calls changed nothing.
 */
public final class PlainTest {
    private static final int RUNS = 300;
    private static final int CALLS = 512;
    private static final int LAST_THAT_TELLS = 11;
    private static final String[] NAMES = {"section", "route", "pull", "back", "lie", "loose", "cat", "train", "enter",
        "go", "pass", "knock", "ofSection", "ofRoute", "ofTrain", "line", "sight", "would", "danger", "ahead",
        "isSound", "digest"};
    // How often each call comes, in the order of NAMES: what moves trains comes often, what asks seldom.
    private static final int[] OFTEN = {0, 0, 24, 18, 8, 5, 3, 8, 24, 40, 10, 1, 8, 10, 8, 10, 6, 8, 3, 6, 1, 2};

    private final Checks checks;
    private final Miceline line = new Miceline();
    private final Miceline quiet = new Miceline();
    private final Plain plain = new Plain();
    private final int run;
    private long seed;

    private PlainTest(Checks checks, int run) {
        this.checks = checks;
        this.run = run;
        this.seed = 7919L * run + 1;
    }

    public static void main(String[] args) {
        Checks checks = new Checks("PlainTest");
        for (int run = 0; run < RUNS; run++) {
            new PlainTest(checks, run).play();
        }
        checks.end();
    }

    private int any(int bound) {
        seed = seed * 6364136223846793005L + 1442695040888963407L;
        return (int) ((seed >>> 33) % bound);
    }

    private boolean one(int of) {
        return any(of) == 0;
    }

    /** A number from 0 up to a count, or seldom one that is beyond it. */
    private int number(int count) {
        if (count == 0 || one(25)) {
            return one(3) ? -1 : one(3) ? -2 : one(4) ? Integer.MAX_VALUE : one(4) ? Integer.MIN_VALUE : count;
        }
        return any(count);
    }

    private void play() {
        int sections = one(8) ? any(3) : 3 + any(6);
        for (int k = 0; k < sections; k++) {
            call(0);
        }
        int routes = sections < 2 ? 0 : one(6) ? any(4) : 6;
        for (int k = 0; k < routes; k++) {
            call(1);
        }
        for (int k = sections + routes; k < CALLS; k++) {
            call(one(60) ? any(2) : weighted());
        }
        checks.due("run " + run + ": one that hears neither what throws nor what asks", Checks.picture(line),
                Checks.picture(quiet));
    }

    private int weighted() {
        int sum = 0;
        for (int often : OFTEN) {
            sum += often;
        }
        int left = any(sum);
        int kind = 0;
        while (left >= OFTEN[kind]) {
            left -= OFTEN[kind++];
        }
        return kind;
    }

    private void call(int kind) {
        if (kind == 16) {
            checks.due("run " + run + ": sight()", plain.sight(), line.sight());
            return;
        }
        int a = first(kind);
        int b = second(kind);
        int c = kind == 1 ? (one(2) ? -1 : number(line.line(0))) : kind == 7 ? 1 + number(5) : 0;
        boolean is = one(2);
        boolean isCounter = one(3);
        int which = kind == 4 ? number(isCounter ? line.line(1) : line.line(0)) : a;
        String what = "run " + run + ": " + NAMES[kind] + "(" + which + ", " + b + ", " + c + ", " + is + ")";
        String due = dueOutcome(() -> onPlain(kind, which, b, c, is, isCounter));
        checks.due(what, due, Checks.outcome(() -> onMiceline(line, kind, which, b, c, is, isCounter)));
        if (kind <= LAST_THAT_TELLS && !due.endsWith("Exception")) {
            onMiceline(quiet, kind, which, b, c, is, isCounter);
        }
    }

    private int first(int kind) {
        switch (kind) {
            case 0:
                return 1 + number(5);
            case 1: case 6: case 12:
                return number(line.line(0));
            case 8: case 9: case 14: case 19:
                return number(line.line(3));
            case 10:
                return one(12) ? number(100) : 1 + any(one(3) ? 99 : 5);
            case 15:
                return number(17);
            case 18:
                return number(256) & (one(9) ? -1 : (1 << line.line(0)) - 1);
            default:
                return number(line.line(1));
        }
    }

    private int second(int kind) {
        switch (kind) {
            case 1:
                return number(line.line(0));
            case 5:
                return number(line.line(1));
            case 7:
                return 1 + number(6);
            case 9: case 19:
                return one(3) ? number(31) : 1 + any(4);
            case 12: case 14:
                return number(7);
            case 13:
                return number(10);
            case 18:
                return one(9) ? number(16) : any(1 << line.line(1));
            default:
                return 0;
        }
    }

    private static String dueOutcome(Checks.Call call) {
        try {
            return String.valueOf(call.answer());
        } catch (Plain.Refusal refusal) {
            return refusal.getMessage();
        }
    }

    private static long onMiceline(Miceline line, int kind, int a, int b, int c, boolean is, boolean isCounter) {
        switch (kind) {
            case 0: return line.section(a);
            case 1: return line.route(a, b, c);
            case 2: return line.pull(a);
            case 3: return line.back(a);
            case 4: return line.lie(isCounter, a, is);
            case 5: return line.loose(a, b, is);
            case 6: return line.cat(a, is) ? 1 : 0;
            case 7: return line.train(a, b, c);
            case 8: return line.enter(a);
            case 9: return line.go(a, b);
            case 10: return line.pass(a);
            case 11: return line.knock();
            case 12: return line.ofSection(a, b);
            case 13: return line.ofRoute(a, b);
            case 14: return line.ofTrain(a, b);
            case 15: return line.line(a);
            case 17: return line.would(a, is);
            case 18: return line.danger(a, b);
            case 19: return line.ahead(a, b);
            case 20: return line.isSound() ? 1 : 0;
            default: return line.digest();
        }
    }

    private long onPlain(int kind, int a, int b, int c, boolean is, boolean isCounter) {
        switch (kind) {
            case 0: return plain.section(a);
            case 1: return plain.route(a, b, c);
            case 2: return plain.pull(a);
            case 3: return plain.back(a);
            case 4: return plain.lie(isCounter, a, is);
            case 5: return plain.loose(a, b, is);
            case 6: return plain.cat(a, is) ? 1 : 0;
            case 7: return plain.train(a, b, c);
            case 8: return plain.enter(a);
            case 9: return plain.go(a, b);
            case 10: return plain.pass(a);
            case 11: return plain.knock();
            case 12: return plain.ofSection(a, b);
            case 13: return plain.ofRoute(a, b);
            case 14: return plain.ofTrain(a, b);
            case 15: return plain.line(a);
            case 17: return plain.would(a, is);
            case 18: return plain.danger(a, b);
            case 19: return plain.ahead(a, b);
            case 20: return plain.isSound() ? 1 : 0;
            default: return plain.digest();
        }
    }
}
