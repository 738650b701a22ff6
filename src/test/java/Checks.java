/** Counts what a test program checks, and prints each answer that is not the one that is due. */
final class Checks {
    /** A call whose answer counts as a number (a boolean 1 or 0). */
    interface Call {
        long answer();
    }

    private final String name;
    private String sentence = "";
    private int good;
    private int bad;

    Checks(String name) {
        this.name = name;
    }

    /** The sentence of the document that the next checks are of; its promise, or 0 outside of these. */
    void sentence(int promise, String said) {
        sentence = "[" + promise + ": " + said + "] ";
    }

    void due(String what, long due, long got) {
        note(got == due, what, String.valueOf(got), String.valueOf(due));
    }

    void due(String what, boolean due, boolean got) {
        note(got == due, what, String.valueOf(got), String.valueOf(due));
    }

    void due(String what, String due, String got) {
        note(due.equals(got), what, got, due);
    }

    void dueIndex(String what, Miceline line, Call call) {
        dueThrow(what, IndexOutOfBoundsException.class, line, call);
    }

    void dueArgument(String what, Miceline line, Call call) {
        dueThrow(what, IllegalArgumentException.class, line, call);
    }

    void dueState(String what, Miceline line, Call call) {
        dueThrow(what, IllegalStateException.class, line, call);
    }

    /** The call throws just this exception, by a throw of Miceline's own, and changes nothing. */
    private void dueThrow(String what, Class<?> due, Miceline line, Call call) {
        String before = picture(line);
        due(what, due.getSimpleName(), outcome(call));
        due(what + " changes nothing", before, picture(line));
    }

    /** What a call answers, or the name of what it throws; a throw of the machine's is told as such. */
    static String outcome(Call call) {
        try {
            return String.valueOf(call.answer());
        } catch (RuntimeException e) {
            boolean own = e.getStackTrace().length > 0 && e.getStackTrace()[0].getClassName().startsWith("Miceline");
            return own ? e.getClass().getSimpleName() : "the machine's " + e;
        }
    }

    /** All that can be asked of a line, but for danger() of single liars. */
    static String picture(Miceline line) {
        StringBuilder all = new StringBuilder(line.sight()).append(' ').append(line.digest());
        for (int what = 0; what <= 16; what++) {
            all.append(' ').append(line.line(what));
        }
        for (int section = 0; section < line.line(0); section++) {
            for (int what = 0; what <= 6; what++) {
                all.append(' ').append(line.ofSection(section, what));
            }
        }
        for (int route = 0; route < line.line(1); route++) {
            for (int what = 0; what <= 9; what++) {
                all.append(' ').append(line.ofRoute(route, what));
            }
        }
        for (int train = 0; train < line.line(3); train++) {
            drawTrain(all, line, train);
        }
        return all.toString();
    }

    private static void drawTrain(StringBuilder all, Miceline line, int train) {
        for (int what = 0; what <= 6; what++) {
            all.append(' ').append(line.ofTrain(train, what));
        }
        for (int tails = 0; tails <= 30 && line.ofTrain(train, 3) == 1; tails += 5) {
            all.append(' ').append(line.ahead(train, tails));
        }
    }

    private void note(boolean is, String what, String got, String due) {
        if (is) {
            good++;
        } else {
            bad++;
            System.out.println(name + ": " + sentence + what + " answered " + got + ", due is " + due);
        }
    }

    /** Says how many checks there were, and ends the program with exit code 1, if one was not as due. */
    void end() {
        System.out.println(name + ": " + good + " checks as due, " + bad + " not");
        if (bad > 0 || good == 0) {
            System.exit(1);
        }
    }
}
