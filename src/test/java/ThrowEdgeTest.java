/** Each exception by itself, each two that apply to one call, and that nothing has changed behind any of them. */
public final class ThrowEdgeTest {
    private static final int NONE = Lines.NONE;

    private final Checks checks = new Checks("ThrowEdgeTest");

    public static void main(String[] args) {
        ThrowEdgeTest test = new ThrowEdgeTest();
        test.checks.sentence(0, "If several exceptions apply, the one that is named first is thrown.");
        test.section();
        test.route();
        test.loose();
        test.train();
        test.go();
        test.pass();
        test.ahead();
        test.asked();
        test.checks.sentence(0, "A method that throws an exception changes nothing.");
        test.numbersGoOn();
        test.trainsGoOn();
        test.leversGoOn();
        test.allAtOnce();
        test.checks.end();
    }

    private void section() {
        Miceline line = new Miceline();
        checks.dueArgument("a length alone", line, () -> line.section(6));
        for (int k = 0; k < 8; k++) {
            line.section(1);
        }
        checks.dueState("full alone", line, () -> line.section(5));
        checks.dueArgument("no length, and full", line, () -> line.section(0));
        checks.dueArgument("too long, and full", line, () -> line.section(6));
    }

    private void route() {
        Miceline line = Lines.alike(3);
        checks.dueIndex("a section alone", line, () -> line.route(0, 2, NONE));
        checks.dueArgument("like sections alone", line, () -> line.route(1, 1, NONE));
        checks.dueIndex("no sections, and like", line, () -> line.route(2, 2, NONE));
        checks.dueIndex("no third section, and like first ones", line, () -> line.route(1, 1, 2));
        checks.dueIndex("no first section, like the third one", line, () -> line.route(NONE, 0, NONE));
        checks.dueIndex("no second section, like the third one", line, () -> line.route(0, NONE, NONE));
        line.route(0, 1, NONE);
        checks.dueState("full alone", line, () -> line.route(0, 1, NONE));
        checks.dueArgument("like sections, and full", line, () -> line.route(0, 0, NONE));
        checks.dueArgument("like third section, and full", line, () -> line.route(0, 1, 0));
        checks.dueIndex("no section, and full", line, () -> line.route(0, 2, NONE));
        checks.dueIndex("no third section, and full", line, () -> line.route(0, 1, -2));
        checks.dueIndex("all three", line, () -> line.route(2, 2, 2));
    }

    private void loose() {
        Miceline line = Lines.meeting();
        line.section(1);
        line.section(1);
        line.route(3, 4, NONE);
        checks.dueIndex("no route alone", line, () -> line.loose(0, 3, true));
        checks.dueArgument("no foes alone", line, () -> line.loose(0, 2, true));
        checks.dueIndex("no route, and itself", line, () -> line.loose(3, 3, true));
        line.loose(0, 1, true);
        line.pull(0);
        line.pull(1);
        line.pull(2);
        checks.dueState("both are pulled alone", line, () -> line.loose(0, 1, false));
        checks.dueArgument("no foes, both are pulled", line, () -> line.loose(0, 2, false));
        checks.dueArgument("itself, pulled", line, () -> line.loose(2, 2, false));
        checks.dueIndex("no route, and a pulled one", line, () -> line.loose(0, 3, false));
    }

    private void train() {
        Miceline line = Lines.alike(1);
        checks.dueIndex("no route alone", line, () -> line.train(1, 1, 1));
        checks.dueArgument("a length alone", line, () -> line.train(0, 7, 1));
        checks.dueArgument("a taste alone", line, () -> line.train(0, 1, 6));
        checks.dueIndex("no route, and a length", line, () -> line.train(1, 0, 1));
        checks.dueIndex("no route, and a taste", line, () -> line.train(-1, 1, 0));
        for (int k = 0; k < 10; k++) {
            line.train(0, 1, 1);
        }
        checks.dueState("full alone", line, () -> line.train(0, 6, 5));
        checks.dueArgument("a length, and full", line, () -> line.train(0, 7, 1));
        checks.dueArgument("a taste, and full", line, () -> line.train(0, 1, 0));
        checks.dueIndex("no route, and full", line, () -> line.train(1, 1, 1));
        checks.dueIndex("all three", line, () -> line.train(1, 0, 0));
    }

    private void go() {
        Miceline line = Lines.alike(1);
        line.train(0, 1, 1);
        checks.dueIndex("no train alone", line, () -> line.go(1, 1));
        checks.dueState("it waits alone", line, () -> line.go(0, 1));
        checks.dueArgument("no tails, and it waits", line, () -> line.go(0, 0));
        checks.dueArgument("too many tails, and it waits", line, () -> line.go(0, 31));
        checks.dueIndex("no train, and no tails", line, () -> line.go(1, 0));
        checks.dueIndex("no train, and too many tails", line, () -> line.go(-1, 31));
        line.pull(0);
        line.enter(0);
        checks.dueArgument("no tails alone", line, () -> line.go(0, 0));
        line.go(0, 30);
        checks.dueState("it has left alone", line, () -> line.go(0, 1));
        checks.dueArgument("too many tails, and it has left", line, () -> line.go(0, 31));
    }

    private void pass() {
        Miceline line = new Miceline();
        Lines.passUpTo(line, 10);
        checks.dueArgument("minutes alone", line, () -> line.pass(0));
        checks.dueState("above alone", line, () -> line.pass(11));
        checks.dueArgument("too many minutes, and above", line, () -> line.pass(100));
        checks.dueArgument("the most minutes, and above", line, () -> line.pass(Lines.MOST));
        checks.due("just up to it", 9999, line.pass(10));
        checks.dueArgument("no minutes, at the end", line, () -> line.pass(0));
    }

    private void ahead() {
        Miceline line = Lines.alike(1);
        line.train(0, 1, 1);
        checks.dueIndex("no train alone", line, () -> line.ahead(1, 1));
        checks.dueState("it waits alone", line, () -> line.ahead(0, 30));
        checks.dueArgument("tails below 0, and it waits", line, () -> line.ahead(0, -1));
        checks.dueArgument("too many tails, and it waits", line, () -> line.ahead(0, 31));
        checks.dueIndex("no train, and tails below 0", line, () -> line.ahead(1, -1));
        checks.dueIndex("no train, and too many tails", line, () -> line.ahead(-1, 31));
        line.pull(0);
        line.enter(0);
        checks.dueArgument("too many tails alone", line, () -> line.ahead(0, 31));
        line.go(0, 30);
        checks.dueState("it has left alone", line, () -> line.ahead(0, 0));
        checks.dueArgument("tails below 0, and it has left", line, () -> line.ahead(0, -1));
    }

    private void asked() {
        Miceline line = Lines.alike(1);
        line.train(0, 1, 1);
        checks.dueIndex("no section, and no question", line, () -> line.ofSection(2, 7));
        checks.dueIndex("no section, and no question", line, () -> line.ofSection(-1, -1));
        checks.dueIndex("no route, and no question", line, () -> line.ofRoute(1, 10));
        checks.dueIndex("no route, and no question", line, () -> line.ofRoute(-1, -1));
        checks.dueIndex("no train, and no question", line, () -> line.ofTrain(1, 7));
        checks.dueIndex("no train, and no question", line, () -> line.ofTrain(-1, -1));
        checks.dueArgument("both sets of liars", line, () -> line.danger(4, 2));
    }

    private void numbersGoOn() {
        Miceline line = new Miceline();
        checks.dueArgument("no section", line, () -> line.section(6));
        checks.due("the first section", 0, line.section(1));
        checks.dueArgument("no section", line, () -> line.section(0));
        checks.due("the next section", 1, line.section(2));
        checks.dueIndex("no route", line, () -> line.route(0, 1, 2));
        checks.dueArgument("no route", line, () -> line.route(0, 1, 1));
        checks.due("the first route", 0, line.route(0, 1, NONE));
        checks.due("no foes of what was not told", 0, line.ofRoute(0, 4));
        checks.dueArgument("no train", line, () -> line.train(0, 7, 1));
        checks.due("the first train", 0, line.train(0, 6, 1));
        checks.dueIndex("no train", line, () -> line.train(1, 1, 1));
        checks.due("the next train", 1, line.train(0, 1, 1));
    }

    private void trainsGoOn() {
        Miceline line = Lines.alike(2);
        line.train(0, 1, 3);
        line.pass(5);
        checks.dueState("it can not enter", line, () -> line.enter(0));
        line.pull(0);
        checks.due("not used by what threw", 0, line.ofRoute(0, 3));
        line.pass(1);
        checks.due("it waited on", 18, line.enter(0));
        checks.dueState("it is on", line, () -> line.enter(0));
        checks.due("it is paid once", 18, line.line(8));
        checks.dueArgument("it does not go", line, () -> line.go(0, 31));
        checks.due("its nose", 2, line.go(0, 1));
        checks.dueArgument("no minutes", line, () -> line.pass(100));
        checks.due("the next minute", 7, line.pass(1));
        checks.due("it leaves", NONE, line.go(0, 1));
        checks.dueState("it has left", line, () -> line.enter(0));
        checks.due("it has left still", 2, line.ofTrain(0, 3));
    }

    private void leversGoOn() {
        Miceline line = Lines.trainOn(1, 1, 1);
        line.route(1, 0, NONE);
        checks.dueState("pulled", line, () -> line.pull(0));
        checks.due("pulled and used still", 1, line.ofRoute(0, 3));
        checks.dueState("back", line, () -> line.back(1));
        line.loose(0, 1, true);
        line.lie(false, 0, true);
        checks.due("the other is pulled", 0, line.pull(1));
        checks.dueState("both are pulled", line, () -> line.loose(0, 1, false));
        checks.due("loose still", 1, line.line(14));
        checks.due("nobody holds it", NONE, line.ofRoute(1, 5));
        checks.dueArgument("no foe of itself", line, () -> line.loose(0, 0, true));
        checks.due("nothing more is loose", 1, line.line(14));
        checks.dueIndex("no such detector", line, () -> line.lie(false, 2, true));
        checks.dueIndex("no such counter", line, () -> line.lie(true, 2, true));
        checks.due("one lies", 1, line.line(10));
        checks.due("one lied at once", 1, line.line(11));
        checks.dueIndex("no such section", line, () -> line.cat(2, true) ? 1 : 0);
        checks.due("no cat", 0, line.line(12));
        Miceline strict = Lines.alike(2);
        checks.dueArgument("no lock with itself", strict, () -> strict.loose(1, 1, true));
        checks.dueIndex("no lock with none", strict, () -> strict.loose(1, 2, true));
        checks.due("none ever was loose", 0, strict.line(15));
    }

    /** Every exception, one after the other, on one line: it looks as before, and goes on as one that heard none. */
    private void allAtOnce() {
        Miceline line = Lines.bothOn();
        String before = Checks.picture(line);
        checks.dueArgument("section", line, () -> line.section(0));
        checks.dueIndex("route", line, () -> line.route(3, 4, 5));
        checks.dueArgument("route", line, () -> line.route(1, 1, 1));
        checks.dueIndex("pull", line, () -> line.pull(2));
        checks.dueState("pull", line, () -> line.pull(0));
        checks.dueIndex("back", line, () -> line.back(-1));
        checks.dueIndex("lie", line, () -> line.lie(true, 2, true));
        checks.dueIndex("lie", line, () -> line.lie(false, 3, true));
        checks.dueIndex("loose", line, () -> line.loose(-1, 0, true));
        checks.dueArgument("loose", line, () -> line.loose(1, 1, true));
        checks.dueState("loose", line, () -> line.loose(1, 0, false));
        checks.dueIndex("cat", line, () -> line.cat(3, true) ? 1 : 0);
        checks.dueIndex("train", line, () -> line.train(2, 1, 1));
        checks.dueArgument("train", line, () -> line.train(0, 0, 1));
        checks.dueIndex("enter", line, () -> line.enter(2));
        checks.dueState("enter", line, () -> line.enter(1));
        checks.dueIndex("go", line, () -> line.go(2, 1));
        checks.dueArgument("go", line, () -> line.go(0, 0));
        checks.dueArgument("pass", line, () -> line.pass(0));
        checks.dueArgument("danger", line, () -> line.danger(8, 0));
        checks.dueArgument("ahead", line, () -> line.ahead(0, 31));
        checks.due("it looks as before", before, Checks.picture(line));
        Miceline quiet = Lines.bothOn();
        checks.due("it goes as the other", quiet.go(0, 2), line.go(0, 2));
        checks.due("and as the other", quiet.go(1, 30), line.go(1, 30));
        checks.due("it looks as the other", Checks.picture(quiet), Checks.picture(line));
    }
}
