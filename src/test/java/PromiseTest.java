/** Promise by promise: ordinary inputs, the edges that the document names, and wrong inputs. */
public final class PromiseTest {
    private static final int NONE = Lines.NONE;
    private static final int MOST = Lines.MOST;
    private static final int LEAST = Lines.LEAST;

    private final Checks checks = new Checks("PromiseTest");

    public static void main(String[] args) {
        PromiseTest test = new PromiseTest();
        test.newObject();
        test.section();
        test.route();
        test.pull();
        test.pullInOrder();
        test.back();
        test.lie();
        test.loose();
        test.looseAndPulled();
        test.cat();
        test.train();
        test.enter();
        test.go();
        test.goClashes();
        test.pass();
        test.knock();
        test.ofSection();
        test.ofRoute();
        test.ofTrain();
        test.line();
        test.sight();
        test.would();
        test.dangerOfLoose();
        test.dangerOfLiars();
        test.dangerOfLaterPlaces();
        test.dangerOfTheFrameAlone();
        test.ahead();
        test.isSound();
        test.digest();
        test.checks.end();
    }

    private void newObject() {
        Miceline line = new Miceline();
        for (int what = 0; what <= 16; what++) {
            checks.due("1: new, line(" + what + ")", 0, line.line(what));
        }
        checks.due("1: new, sight()", "", line.sight());
        checks.due("1: new, isSound()", true, line.isSound());
        checks.due("1: new, danger(0, 0)", NONE, line.danger(0, 0));
        checks.dueIndex("1: new, ofSection(0, 0)", line, () -> line.ofSection(0, 0));
        checks.dueIndex("1: new, ofRoute(0, 0)", line, () -> line.ofRoute(0, 0));
        checks.dueIndex("1: new, ofTrain(0, 0)", line, () -> line.ofTrain(0, 0));
    }

    private void section() {
        Miceline line = new Miceline();
        for (int wrong : new int[] {0, 6, -1, LEAST, MOST}) {
            checks.dueArgument("2: section(" + wrong + ")", line, () -> line.section(wrong));
        }
        for (int k = 0; k < 8; k++) {
            checks.due("2: section " + k, k, line.section(1 + k % 5));
            checks.due("2: its length", 1 + k % 5, line.ofSection(k, 0));
        }
        checks.due("2: how many", 8, line.line(0));
        checks.dueState("2: a ninth", line, () -> line.section(1));
        checks.dueArgument("2: a ninth of no length", line, () -> line.section(0));
    }

    private void route() {
        Miceline line = Lines.withSections(1, 2, 3, 4);
        for (int wrong : new int[] {-1, -2, 4, LEAST, MOST}) {
            checks.dueIndex("3: route(" + wrong + ", 1, 2)", line, () -> line.route(wrong, 1, 2));
            checks.dueIndex("3: route(1, " + wrong + ", 2)", line, () -> line.route(1, wrong, 2));
        }
        for (int wrong : new int[] {-2, 4, LEAST, MOST}) {
            checks.dueIndex("3: route(0, 1, " + wrong + ")", line, () -> line.route(0, 1, wrong));
            checks.dueIndex("3: route(1, 1, " + wrong + ")", line, () -> line.route(1, 1, wrong));
        }
        checks.dueIndex("3: route(-1, -1, -1)", line, () -> line.route(-1, -1, -1));
        checks.dueArgument("3: route(1, 1, -1)", line, () -> line.route(1, 1, NONE));
        checks.dueArgument("3: route(1, 2, 1)", line, () -> line.route(1, 2, 1));
        checks.dueArgument("3: route(2, 1, 1)", line, () -> line.route(2, 1, 1));
        checks.due("3: the first", 0, line.route(0, 1, NONE));
        checks.due("3: of three", 1, line.route(3, 2, 1));
        checks.due("3: the same row again", 2, line.route(0, 1, NONE));
        checks.due("3: the fourth", 3, line.route(2, 3, NONE));
        checks.due("3: its way", 9, line.ofRoute(1, 1));
        checks.due("3: its sections", 14, line.ofRoute(1, 0));
        checks.due("3: its sections and no third", 3, line.ofRoute(0, 0));
        checks.due("3: all but itself are foes", 13, line.ofRoute(1, 4));
        checks.due("3: foes by one section", 2, line.ofRoute(3, 4));
        checks.due("3: foes by the same row", 6, line.ofRoute(0, 4));
        checks.dueState("3: a fifth", line, () -> line.route(0, 2, NONE));
        checks.dueArgument("3: a fifth of like sections", line, () -> line.route(0, 0, NONE));
        checks.dueIndex("3: a fifth of none", line, () -> line.route(0, 4, NONE));
    }

    private void pull() {
        Miceline line = Lines.meeting();
        for (int wrong : new int[] {-1, 2, LEAST, MOST}) {
            checks.dueIndex("4: pull(" + wrong + ")", line, () -> line.pull(wrong));
        }
        checks.due("4: the first", 0, line.pull(0));
        checks.due("4: it is pulled", 1, line.ofRoute(0, 2));
        checks.dueState("4: again", line, () -> line.pull(0));
        checks.due("4: a foe", 1, line.pull(1));
        checks.due("4: it is not pulled", 0, line.ofRoute(1, 2));
        checks.due("4: but tried", 1, line.ofRoute(1, 9));
        checks.due("4: what threw was no try", 1, line.ofRoute(0, 9));
        checks.due("4: who holds it", 0, line.ofRoute(1, 5));
        line.loose(1, 0, true);
        checks.due("4: a foe with a loose lock", 0, line.pull(1));
        Miceline used = Lines.meeting();
        used.train(0, 1, 1);
        used.pull(0);
        used.enter(0);
        checks.due("4: used", 1, used.ofRoute(0, 3));
        used.go(0, 30);
        used.back(0);
        checks.due("4: used stays when back", 1, used.ofRoute(0, 3));
        used.pull(0);
        checks.due("4: not used when pulled", 0, used.ofRoute(0, 3));
    }

    /** HELD goes before a detector, that before a CAT; what lies does not refuse. */
    private void pullInOrder() {
        Miceline line = Lines.meeting();
        line.train(0, 6, 1);
        line.pull(0);
        line.enter(0);
        line.go(0, 2);
        line.cat(2, true);
        checks.due("4: all three", 1, line.pull(1));
        line.loose(0, 1, true);
        checks.due("4: a detector and a cat", 2, line.pull(1));
        line.lie(false, 0, true);
        checks.due("4: another detector lies", 2, line.pull(1));
        line.lie(false, 1, true);
        checks.due("4: the detector lies, a cat", 3, line.pull(1));
        line.cat(2, false);
        line.cat(0, true);
        checks.due("4: a cat elsewhere", 0, line.pull(1));
        Miceline cats = Lines.meeting();
        cats.cat(1, true);
        checks.due("4: a cat in the second section", 3, cats.pull(0));
        checks.due("4: for both", 3, cats.pull(1));
        cats.cat(1, false);
        checks.due("4: gone", 0, cats.pull(1));
    }

    private void back() {
        Miceline line = Lines.meeting();
        for (int wrong : new int[] {-1, 2, LEAST, MOST}) {
            checks.dueIndex("5: back(" + wrong + ")", line, () -> line.back(wrong));
        }
        checks.dueState("5: it is back", line, () -> line.back(0));
        line.pull(0);
        checks.due("5: put back", 0, line.back(0));
        checks.due("5: it is back", 0, line.ofRoute(0, 2));
        checks.dueState("5: again", line, () -> line.back(0));
        checks.due("5: tries, without what threw", 2, line.ofRoute(0, 9));
        line.train(0, 3, 1);
        line.pull(0);
        line.enter(0);
        line.cat(0, true);
        checks.due("5: counter and detector", 1, line.back(0));
        line.lie(true, 1, true);
        checks.due("5: another counter lies", 1, line.back(0));
        line.lie(true, 0, true);
        checks.due("5: the detector alone", 2, line.back(0));
        checks.due("5: it is pulled still", 1, line.ofRoute(0, 2));
        line.go(0, 2);
        line.lie(false, 0, true);
        checks.due("5: the second detector", 2, line.back(0));
        line.lie(false, 1, true);
        checks.due("5: all lie; cats do not matter", 0, line.back(0));
        checks.due("5: all tries", 8, line.ofRoute(0, 9));
        checks.due("5: used still", 1, line.ofRoute(0, 3));
        Miceline other = Lines.bothOn();
        other.go(1, 2);
        other.go(0, 30);
        checks.due("5: a train of another route", 2, other.back(0));
        other.go(1, 2);
        checks.due("5: it has left", 0, other.back(0));
    }

    private void lie() {
        Miceline line = Lines.meeting();
        for (int wrong : new int[] {-1, 3, LEAST, MOST}) {
            checks.dueIndex("6: lie(false, " + wrong + ", true)", line, () -> line.lie(false, wrong, true));
        }
        for (int wrong : new int[] {-1, 2, LEAST, MOST}) {
            checks.dueIndex("6: lie(true, " + wrong + ", true)", line, () -> line.lie(true, wrong, true));
        }
        checks.due("6: a detector", 1, line.lie(false, 2, true));
        checks.due("6: again", 1, line.lie(false, 2, true));
        checks.due("6: a counter", 2, line.lie(true, 1, true));
        checks.due("6: another counter", 3, line.lie(true, 0, true));
        checks.due("6: one that did not", 3, line.lie(false, 0, false));
        checks.due("6: not any more", 2, line.lie(true, 1, false));
        checks.due("6: how many", 2, line.line(10));
        checks.due("6: at most", 3, line.line(11));
        checks.due("6: the detector", 1, line.ofSection(2, 3));
        checks.due("6: no other", 0, line.ofSection(0, 3));
        checks.due("6: the counter", 1, line.ofRoute(0, 8));
        checks.due("6: not the other", 0, line.ofRoute(1, 8));
    }

    private void loose() {
        Miceline line = Lines.withSections(1, 1, 1, 1, 1);
        line.route(0, 1, NONE);
        line.route(1, 2, NONE);
        line.route(3, 4, 1);
        line.route(3, 4, NONE);
        for (int wrong : new int[] {-1, 4, LEAST, MOST}) {
            checks.dueIndex("7: loose(" + wrong + ", 1, true)", line, () -> line.loose(wrong, 1, true));
            checks.dueIndex("7: loose(1, " + wrong + ", true)", line, () -> line.loose(1, wrong, true));
            checks.dueIndex("7: both are none", line, () -> line.loose(wrong, wrong, true));
        }
        checks.dueArgument("7: no foes", line, () -> line.loose(0, 3, true));
        checks.dueArgument("7: no foes, not loose", line, () -> line.loose(3, 1, false));
        checks.dueArgument("7: itself", line, () -> line.loose(1, 1, true));
        checks.due("7: not loose as before", 0, line.loose(0, 1, false));
        checks.due("7: never loose yet", 0, line.line(15));
        checks.due("7: one", 1, line.loose(0, 1, true));
        checks.due("7: the same from the other side", 1, line.loose(1, 0, true));
        checks.due("7: another", 2, line.loose(2, 0, true));
        checks.due("7: one less", 1, line.loose(1, 0, false));
        checks.due("7: how many", 1, line.line(14));
        checks.due("7: none", 0, line.loose(0, 2, false));
        checks.due("7: ever loose", 1, line.line(15));
    }

    private void looseAndPulled() {
        Miceline line = Lines.meeting();
        line.pull(0);
        checks.due("7: one is pulled", 1, line.loose(0, 1, true));
        checks.due("7: nobody holds it then", NONE, line.ofRoute(1, 5));
        checks.due("7: one is pulled, not any more", 0, line.loose(0, 1, false));
        checks.due("7: it holds it again", 0, line.ofRoute(1, 5));
        line.loose(1, 0, true);
        line.pull(1);
        checks.dueState("7: both are pulled", line, () -> line.loose(0, 1, false));
        checks.dueState("7: both are pulled, told the other way", line, () -> line.loose(1, 0, false));
        checks.dueArgument("7: itself, which is pulled", line, () -> line.loose(1, 1, false));
        checks.due("7: loose again", 1, line.loose(0, 1, true));
        line.back(0);
        checks.due("7: one is back", 0, line.loose(0, 1, false));
    }

    private void cat() {
        Miceline line = Lines.meeting();
        for (int wrong : new int[] {-1, 3, LEAST, MOST}) {
            checks.dueIndex("8: cat(" + wrong + ", true)", line, () -> line.cat(wrong, true) ? 1 : 0);
        }
        checks.due("8: it did not", false, line.cat(2, true));
        checks.due("8: it did", true, line.cat(2, true));
        checks.due("8: another", false, line.cat(0, true));
        checks.due("8: how many", 2, line.line(12));
        checks.due("8: one sits there", 1, line.ofSection(2, 4));
        checks.due("8: none sits there", 0, line.ofSection(1, 4));
        checks.due("8: not any more, it did", true, line.cat(2, false));
        checks.due("8: not any more, it did not", false, line.cat(2, false));
        checks.due("8: the other does still", 1, line.line(12));
    }

    private void train() {
        Miceline line = Lines.meeting();
        for (int wrong : new int[] {-1, 2, LEAST, MOST}) {
            checks.dueIndex("9: train(" + wrong + ", 0, 0)", line, () -> line.train(wrong, 0, 0));
        }
        for (int wrong : new int[] {0, 7, -1, LEAST, MOST}) {
            checks.dueArgument("9: train(0, " + wrong + ", 1)", line, () -> line.train(0, wrong, 1));
        }
        for (int wrong : new int[] {0, 6, -1, LEAST, MOST}) {
            checks.dueArgument("9: train(0, 1, " + wrong + ")", line, () -> line.train(0, 1, wrong));
        }
        for (int k = 0; k < 10; k++) {
            checks.due("9: train " + k, k, line.train(k % 2, 1 + k % 6, 1 + k % 5));
        }
        checks.due("9: its route", 1, line.ofTrain(5, 0));
        checks.due("9: its length", 6, line.ofTrain(5, 1));
        checks.due("9: its taste", 5, line.ofTrain(4, 2));
        checks.due("9: it waits", 0, line.ofTrain(9, 3));
        checks.due("9: how many", 10, line.line(3));
        checks.dueState("9: an eleventh", line, () -> line.train(0, 1, 1));
        checks.dueArgument("9: an eleventh of no length", line, () -> line.train(0, 0, 1));
        checks.dueIndex("9: an eleventh without a route", line, () -> line.train(2, 1, 1));
    }

    private void enter() {
        Miceline line = Lines.meeting();
        line.pass(7);
        line.train(0, 2, 3);
        line.train(0, 1, 5);
        line.train(1, 1, 4);
        for (int wrong : new int[] {-1, 3, LEAST, MOST}) {
            checks.dueIndex("10: enter(" + wrong + ")", line, () -> line.enter(wrong));
        }
        checks.dueState("10: the lever is back", line, () -> line.enter(0));
        line.pass(9);
        line.pull(0);
        checks.dueState("10: the lever of the other route", line, () -> line.enter(2));
        checks.due("10: paid for 9 minutes", 27, line.enter(0));
        checks.due("10: it is on", 1, line.ofTrain(0, 3));
        checks.due("10: its nose", 1, line.ofTrain(0, 4));
        checks.due("10: in its first section", 1, line.ofTrain(0, 5));
        checks.due("10: which it came to", 0, line.ofSection(0, 6));
        checks.due("10: the route is used", 1, line.ofRoute(0, 3));
        checks.dueState("10: it does not wait", line, () -> line.enter(0));
        checks.dueState("10: the route is used", line, () -> line.enter(1));
        line.lie(true, 0, true);
        line.lie(false, 0, true);
        line.back(0);
        checks.dueState("10: used, and back", line, () -> line.enter(1));
        line.pull(0);
        line.pass(1);
        checks.due("10: pulled again", 50, line.enter(1));
        checks.due("10: a clash as it enters", 1, line.line(9));
        checks.due("10: both are paid", 77, line.line(8));
        line.go(0, 30);
        line.back(0);
        line.lie(false, 0, false);
        line.go(1, 30);
        line.pull(0);
        checks.dueState("10: it has left", line, () -> line.enter(0));
        Miceline cats = Lines.meeting();
        cats.train(0, 1, 1);
        cats.pull(0);
        cats.cat(0, true);
        checks.due("10: cats and minutes do not matter", 0, cats.enter(0));
    }

    private void go() {
        Miceline line = Lines.withSections(2, 3);
        line.route(1, 0, NONE);
        line.train(0, 3, 1);
        for (int wrong : new int[] {-1, 1, LEAST, MOST}) {
            checks.dueIndex("11: go(" + wrong + ", 0)", line, () -> line.go(wrong, 0));
        }
        for (int wrong : new int[] {0, 31, -1, LEAST, MOST}) {
            checks.dueArgument("11: go(0, " + wrong + ")", line, () -> line.go(0, wrong));
        }
        checks.dueState("11: it waits", line, () -> line.go(0, 1));
        line.pull(0);
        line.enter(0);
        checks.due("11: to the end of the first section", 3, line.go(0, 2));
        checks.due("11: in the first", ".0", line.sight());
        checks.due("11: not yet in the second", NONE, line.ofSection(0, 6));
        checks.due("11: to the second", 4, line.go(0, 1));
        checks.due("11: in both", "00", line.sight());
        checks.due("11: came to the second", 0, line.ofSection(0, 6));
        checks.due("11: the last tail of the first", 5, line.go(0, 1));
        checks.due("11: in both", "00", line.sight());
        checks.due("11: beyond the end", 6, line.go(0, 1));
        checks.due("11: in the second", "0.", line.sight());
        checks.due("11: its last tail", 7, line.go(0, 1));
        checks.due("11: its nose", 7, line.ofTrain(0, 4));
        checks.due("11: it has left", NONE, line.go(0, 1));
        checks.due("11: it has", 2, line.ofTrain(0, 3));
        checks.due("11: nothing there", "..", line.sight());
        checks.dueState("11: it has left", line, () -> line.go(0, 1));
        checks.dueArgument("11: it has left, by no tails", line, () -> line.go(0, 0));
        checks.due("11: without a clash", 0, line.line(9));
        Miceline far = Lines.withSections(5, 5, 5);
        far.route(0, 1, 2);
        far.train(0, 6, 1);
        far.pull(0);
        far.enter(0);
        checks.due("11: 19 tails", 20, far.go(0, 19));
        checks.due("11: 30 tails", NONE, far.go(0, 30));
    }

    private void goClashes() {
        Miceline line = Lines.bothOn();
        line.go(1, 2);
        checks.due("11: no clash", 0, line.line(9));
        line.go(0, 1);
        checks.due("11: not yet", 0, line.line(9));
        line.go(0, 1);
        checks.due("11: a clash", 1, line.line(9));
        checks.due("11: the later came last", 0, line.ofSection(1, 6));
        line.go(1, 1);
        checks.due("11: the other's tail clashes too", 2, line.line(9));
        checks.due("11: it did not come anew", 0, line.ofSection(1, 6));
        line.go(0, 2);
        checks.due("11: one more, and leaving is none", 3, line.line(9));
        line.go(1, 1);
        checks.due("11: it left, too", 3, line.line(9));
        Miceline same = Lines.withSections(2, 2);
        same.route(0, 1, NONE);
        same.route(1, 0, NONE);
        same.loose(0, 1, true);
        same.train(0, 6, 1);
        same.train(1, 6, 1);
        same.pull(0);
        same.pull(1);
        same.enter(0);
        same.enter(1);
        same.go(0, 1);
        checks.due("11: none yet", 0, same.line(9));
        same.go(0, 1);
        same.go(1, 2);
        checks.due("11: in two sections, one clash a tail", 3, same.line(9));
        same.go(1, 3);
        checks.due("11: each tail", 6, same.line(9));
        Miceline wait = Lines.meeting();
        wait.train(0, 1, 1);
        wait.train(0, 1, 1);
        wait.pull(0);
        wait.enter(0);
        wait.go(0, 1);
        checks.due("11: who waits does not clash", 0, wait.line(9));
    }

    private void pass() {
        Miceline line = new Miceline();
        for (int wrong : new int[] {0, 100, -1, LEAST, MOST}) {
            checks.dueArgument("12: pass(" + wrong + ")", line, () -> line.pass(wrong));
        }
        checks.due("12: one", 1, line.pass(1));
        for (int k = 1; k <= 100; k++) {
            checks.due("12: pass(99)", 1 + 99 * k, line.pass(99));
        }
        checks.dueState("12: to 10000", line, () -> line.pass(99));
        checks.due("12: to 9998", 9998, line.pass(97));
        checks.dueState("12: to 10000", line, () -> line.pass(2));
        checks.due("12: to 9999", 9999, line.pass(1));
        checks.dueState("12: to 10000", line, () -> line.pass(1));
        checks.dueArgument("12: by none", line, () -> line.pass(0));
        checks.due("12: the minute", 9999, line.line(7));
    }

    private void knock() {
        Miceline line = Lines.meeting();
        line.pull(0);
        line.pull(1);
        for (int k = 1; k <= 3; k++) {
            checks.due("13: knock " + k, k, line.knock());
        }
        checks.due("13: refused by knock() only", 3, line.line(16));
    }

    private void ofSection() {
        Miceline line = Lines.withSections(2, 3, 5);
        line.route(1, 0, NONE);
        line.route(2, 0, NONE);
        for (int wrong : new int[] {-1, 3, LEAST, MOST}) {
            checks.dueIndex("14: ofSection(" + wrong + ", 7)", line, () -> line.ofSection(wrong, 7));
        }
        for (int wrong : new int[] {-1, 7, LEAST, MOST}) {
            checks.dueArgument("14: ofSection(0, " + wrong + ")", line, () -> line.ofSection(0, wrong));
        }
        int[] first = {2, 0, 0, 0, 0, 3, NONE};
        int[] second = {3, 0, 0, 0, 0, 1, NONE};
        int[] third = {5, 0, 0, 0, 0, 2, NONE};
        dueOfSections(line, first, second, third);
        line.train(0, 1, 1);
        line.train(0, 2, 1);
        line.pull(0);
        line.enter(1);
        line.cat(2, true);
        dueOfSections(line, first, new int[] {3, 1, 1, 0, 0, 1, 1}, new int[] {5, 0, 0, 0, 1, 2, NONE});
        line.lie(false, 1, true);
        line.lie(true, 0, true);
        line.back(0);
        line.pull(0);
        line.enter(0);
        line.go(1, 3);
        dueOfSections(line, new int[] {2, 1, 1, 0, 0, 3, 1}, new int[] {3, 2, 0, 1, 0, 1, 0},
                new int[] {5, 0, 0, 0, 1, 2, NONE});
        line.go(1, 30);
        dueOfSections(line, new int[] {2, 0, 0, 0, 0, 3, 1}, new int[] {3, 1, 0, 1, 0, 1, 0},
                new int[] {5, 0, 0, 0, 1, 2, NONE});
    }

    private void dueOfSections(Miceline line, int[]... due) {
        for (int section = 0; section < due.length; section++) {
            for (int what = 0; what <= 6; what++) {
                checks.due("14: ofSection(" + section + ", " + what + ")", due[section][what],
                        line.ofSection(section, what));
            }
        }
    }

    private void ofRoute() {
        Miceline line = Lines.withSections(2, 3, 5);
        line.route(1, 2, NONE);
        line.route(2, 0, 1);
        for (int wrong : new int[] {-1, 2, LEAST, MOST}) {
            checks.dueIndex("15: ofRoute(" + wrong + ", 10)", line, () -> line.ofRoute(wrong, 10));
        }
        for (int wrong : new int[] {-1, 10, LEAST, MOST}) {
            checks.dueArgument("15: ofRoute(0, " + wrong + ")", line, () -> line.ofRoute(0, wrong));
        }
        dueOfRoutes(line, new int[] {6, 8, 0, 0, 2, NONE, 0, 0, 0, 0}, new int[] {7, 10, 0, 0, 1, NONE, 0, 0, 0, 0});
        line.pull(0);
        line.train(0, 1, 1);
        line.train(0, 1, 1);
        line.enter(0);
        dueOfRoutes(line, new int[] {6, 8, 1, 1, 2, NONE, 1, 1, 0, 1}, new int[] {7, 10, 0, 0, 1, 0, 0, 0, 0, 0});
        line.lie(true, 0, true);
        line.lie(false, 1, true);
        line.back(0);
        line.pull(0);
        line.enter(1);
        line.pull(1);
        dueOfRoutes(line, new int[] {6, 8, 1, 1, 2, NONE, 2, 0, 1, 3}, new int[] {7, 10, 0, 0, 1, 0, 0, 0, 0, 1});
        line.go(0, 30);
        line.back(0);
        line.lie(true, 0, false);
        dueOfRoutes(line, new int[] {6, 8, 0, 1, 2, NONE, 1, 1, 0, 4}, new int[] {7, 10, 0, 0, 1, NONE, 0, 0, 0, 1});
        holder();
    }

    private void holder() {
        Miceline line = Lines.withSections(1, 1, 1, 1);
        line.route(0, 1, NONE);
        line.route(2, 3, NONE);
        line.route(1, 2, NONE);
        line.pull(1);
        checks.due("15: the one that holds it", 1, line.ofRoute(2, 5));
        line.pull(0);
        checks.due("15: the smallest that holds it", 0, line.ofRoute(2, 5));
        line.loose(0, 2, true);
        checks.due("15: the smallest without a loose lock", 1, line.ofRoute(2, 5));
        checks.due("15: a pulled one is held by nobody", NONE, line.ofRoute(0, 5));
        line.loose(1, 2, true);
        checks.due("15: nobody", NONE, line.ofRoute(2, 5));
    }

    private void dueOfRoutes(Miceline line, int[]... due) {
        for (int route = 0; route < due.length; route++) {
            for (int what = 0; what <= 9; what++) {
                checks.due("15: ofRoute(" + route + ", " + what + ")", due[route][what], line.ofRoute(route, what));
            }
        }
    }

    private void ofTrain() {
        Miceline line = Lines.withSections(2, 3, 5);
        line.route(1, 2, 0);
        line.route(0, 1, NONE);
        line.pass(5);
        line.train(1, 6, 2);
        line.train(0, 4, 3);
        for (int wrong : new int[] {-1, 2, LEAST, MOST}) {
            checks.dueIndex("16: ofTrain(" + wrong + ", 7)", line, () -> line.ofTrain(wrong, 7));
        }
        for (int wrong : new int[] {-1, 7, LEAST, MOST}) {
            checks.dueArgument("16: ofTrain(0, " + wrong + ")", line, () -> line.ofTrain(0, wrong));
        }
        dueOfTrains(line, new int[] {1, 6, 2, 0, NONE, 0, 0}, new int[] {0, 4, 3, 0, NONE, 0, 0});
        line.pass(10);
        dueOfTrains(line, new int[] {1, 6, 2, 0, NONE, 0, 20}, new int[] {0, 4, 3, 0, NONE, 0, 30});
        line.pull(0);
        line.enter(1);
        line.pass(1);
        dueOfTrains(line, new int[] {1, 6, 2, 0, NONE, 0, 22}, new int[] {0, 4, 3, 1, 1, 2, 30});
        line.go(1, 8);
        dueOfTrains(line, new int[] {1, 6, 2, 0, NONE, 0, 22}, new int[] {0, 4, 3, 1, 9, 5, 30});
        line.go(1, 8);
        dueOfTrains(line, new int[] {1, 6, 2, 0, NONE, 0, 22}, new int[] {0, 4, 3, 2, NONE, 0, 30});
    }

    private void dueOfTrains(Miceline line, int[]... due) {
        for (int train = 0; train < due.length; train++) {
            for (int what = 0; what <= 6; what++) {
                checks.due("16: ofTrain(" + train + ", " + what + ")", due[train][what], line.ofTrain(train, what));
            }
        }
    }

    private void line() {
        Miceline line = Lines.bothOn();
        for (int wrong : new int[] {-1, 17, LEAST, MOST}) {
            checks.dueArgument("17: line(" + wrong + ")", line, () -> line.line(wrong));
        }
        dueOfLine(line, 3, 2, 2, 2, 0, 2, 0, 0, 0, 0, 0, 0, 0, 1, 1, 1, 0);
        line.section(5);
        line.route(3, 0, NONE);
        line.route(3, 0, 2);
        line.loose(2, 3, true);
        line.loose(0, 3, true);
        line.loose(2, 3, false);
        line.pass(3);
        line.train(0, 1, 5);
        line.train(0, 1, 5);
        line.pass(4);
        line.go(0, 2);
        line.go(1, 4);
        line.lie(true, 3, true);
        line.lie(true, 2, true);
        line.lie(false, 3, true);
        line.lie(true, 2, false);
        line.cat(3, true);
        line.knock();
        dueOfLine(line, 4, 4, 2, 4, 2, 1, 1, 7, 0, 2, 2, 3, 1, 5, 2, 1, 1);
        line.go(0, 30);
        line.back(0);
        line.pull(0);
        line.enter(3);
        line.cat(1, true);
        line.knock();
        dueOfLine(line, 4, 4, 2, 4, 1, 1, 2, 7, 20, 2, 2, 3, 2, 5, 2, 1, 2);
    }

    private void dueOfLine(Miceline line, int... due) {
        for (int what = 0; what <= 16; what++) {
            checks.due("17: line(" + what + ")", due[what], line.line(what));
        }
    }

    private void sight() {
        Miceline line = Lines.withSections(1, 1, 1);
        checks.due("18: nothing", "...", line.sight());
        line.route(0, 1, 2);
        line.lie(true, 0, true);
        line.lie(false, 0, true);
        line.lie(false, 1, true);
        line.lie(false, 2, true);
        for (int k = 0; k < 10; k++) {
            line.train(0, k == 9 ? 2 : 1, 1);
        }
        line.pull(0);
        line.enter(9);
        line.go(9, 1);
        checks.due("18: a train in two sections, though they lie", "99.", line.sight());
        line.back(0);
        line.pull(0);
        line.enter(3);
        checks.due("18: two in one", "!9.", line.sight());
        line.go(3, 1);
        checks.due("18: two in another", "9!.", line.sight());
        line.back(0);
        line.pull(0);
        line.enter(7);
        line.go(7, 1);
        checks.due("18: three in one", "9!.", line.sight());
        line.go(9, 2);
        line.go(7, 1);
        checks.due("18: another two", ".3!", line.sight());
        line.go(9, 1);
        checks.due("18: one left", ".37", line.sight());
    }

    private void would() {
        Miceline line = Lines.meeting();
        for (int wrong : new int[] {-1, 2, LEAST, MOST}) {
            checks.dueIndex("19: would(" + wrong + ", true)", line, () -> line.would(wrong, true));
            checks.dueIndex("19: would(" + wrong + ", false)", line, () -> line.would(wrong, false));
        }
        dueWould(line, 0, 0, NONE);
        line.cat(0, true);
        dueWould(line, 0, 3, NONE);
        dueWould(line, 1, 0, NONE);
        line.cat(0, false);
        line.pull(0);
        dueWould(line, 0, NONE, 0);
        dueWould(line, 1, 1, NONE);
        line.train(0, 6, 1);
        line.enter(0);
        dueWould(line, 0, NONE, 1);
        line.lie(true, 0, true);
        dueWould(line, 0, NONE, 2);
        line.go(0, 2);
        line.loose(0, 1, true);
        dueWould(line, 1, 2, NONE);
        checks.due("19: nothing is pulled by it", 0, line.ofRoute(1, 2));
        checks.due("19: and nothing is tried", 0, line.ofRoute(1, 9));
        checks.due("19: nothing put back", 1, line.ofRoute(0, 2));
    }

    private void dueWould(Miceline line, int route, int pulled, int back) {
        checks.due("19: would(" + route + ", true)", pulled, line.would(route, true));
        checks.due("19: would(" + route + ", false)", back, line.would(route, false));
    }

    private void dangerOfLoose() {
        Miceline line = Lines.meeting();
        for (int wrong : new int[] {-1, 8, 15, LEAST, MOST}) {
            checks.dueArgument("20: danger(" + wrong + ", 0)", line, () -> line.danger(wrong, 0));
        }
        for (int wrong : new int[] {-1, 4, 7, LEAST, MOST}) {
            checks.dueArgument("20: danger(0, " + wrong + ")", line, () -> line.danger(0, wrong));
        }
        checks.due("20: no liar, no loose lock", NONE, line.danger(0, 0));
        checks.due("20: detectors alone", NONE, line.danger(7, 0));
        checks.due("20: counters alone", NONE, line.danger(0, 3));
        line.loose(0, 1, true);
        checks.due("20: a loose lock, each goes to the middle", 6, line.danger(0, 0));
        line.loose(0, 1, false);
        checks.due("20: not loose any more", NONE, line.danger(0, 0));
        Miceline same = Lines.withSections(1, 1);
        same.route(0, 1, NONE);
        same.route(0, 1, NONE);
        same.loose(1, 0, true);
        checks.due("20: the same row, a loose lock", 4, same.danger(0, 0));
        Miceline apart = Lines.withSections(1, 1, 1, 1);
        apart.route(0, 1, NONE);
        apart.route(2, 3, NONE);
        checks.due("20: routes apart, all lie", NONE, apart.danger(15, 3));
        Miceline three = Lines.withSections(1, 1, 1, 1, 1);
        three.route(0, 1, 2);
        three.route(3, 4, 2);
        three.loose(0, 1, true);
        checks.due("20: they meet in the third", 8, three.danger(0, 0));
    }

    private void dangerOfLiars() {
        Miceline line = Lines.meeting();
        // 0 is PULLED, enters and goes to the middle; it is put BACK, as its counter and the middle's detector
        // lie; then 1 is PULLED, enters and goes to the middle.
        checks.due("20: the middle and the counter of 0", 7, line.danger(2, 1));
        checks.due("20: the middle and the counter of 1", 7, line.danger(2, 2));
        checks.due("20: both ends and both counters", 7, line.danger(5, 3));
        checks.due("20: the end of 0 and its counter", 7, line.danger(1, 1));
        checks.due("20: the end of 0 and the other counter", NONE, line.danger(1, 2));
        checks.due("20: all of them", 7, line.danger(7, 3));
        Miceline same = Lines.withSections(1, 1);
        same.route(0, 1, NONE);
        same.route(0, 1, NONE);
        checks.due("20: the same row, the first detector", 5, same.danger(1, 1));
        checks.due("20: the same row, the second detector", 7, same.danger(2, 1));
    }

    /** A train that was let go while its LEVER is BACK goes on from SECTION to SECTION. */
    private void dangerOfLaterPlaces() {
        Miceline line = Lines.withSections(1, 1, 1, 1);
        line.route(0, 1, 2);
        line.route(3, 2, NONE);
        checks.due("20: let go in its first section", 8, line.danger(1, 1));
        checks.due("20: let go in its second section", 8, line.danger(2, 1));
        checks.due("20: let go in its last section", 8, line.danger(4, 1));
        checks.due("20: the other is let go", 8, line.danger(8, 2));
        checks.due("20: the detector of the other", NONE, line.danger(8, 1));
    }

    /** What stands on the line now, LIES now, or sits there now, does not matter to the proof. */
    private void dangerOfTheFrameAlone() {
        Miceline line = Lines.bothOn();
        checks.due("20: trains there are do not matter", 6, line.danger(0, 0));
        line.cat(0, true);
        line.cat(1, true);
        checks.due("20: cats do not matter", 6, line.danger(0, 0));
        Miceline lies = Lines.meeting();
        lies.lie(true, 0, true);
        lies.lie(false, 1, true);
        checks.due("20: what lies now does not matter", NONE, lies.danger(0, 0));
        String before = Checks.picture(lies);
        lies.danger(7, 3);
        checks.due("20: nothing is changed", before, Checks.picture(lies));
        Miceline later = Lines.withSections(1, 1);
        later.route(0, 1, NONE);
        checks.due("20: one route", NONE, later.danger(3, 1));
        later.route(1, 0, NONE);
        checks.due("20: a route told later", 6, later.danger(1, 1));
    }

    private void ahead() {
        Miceline line = Lines.withSections(2, 3, 1);
        line.route(1, 0, 2);
        line.train(0, 2, 1);
        for (int wrong : new int[] {-1, 1, LEAST, MOST}) {
            checks.dueIndex("21: ahead(" + wrong + ", -1)", line, () -> line.ahead(wrong, -1));
        }
        for (int wrong : new int[] {-1, 31, LEAST, MOST}) {
            checks.dueArgument("21: ahead(0, " + wrong + ")", line, () -> line.ahead(0, wrong));
        }
        checks.dueState("21: it waits", line, () -> line.ahead(0, 0));
        line.pull(0);
        line.enter(0);
        int[] due = {2, 2, 2, 3, 1, 5, 4, 0, 0};
        for (int tails = 0; tails < due.length; tails++) {
            checks.due("21: ahead(0, " + tails + ")", due[tails], line.ahead(0, tails));
        }
        checks.due("21: ahead(0, 30)", 0, line.ahead(0, 30));
        line.go(0, 3);
        checks.due("21: from there", 3, line.ahead(0, 0));
        checks.due("21: from there", 5, line.ahead(0, 2));
        checks.due("21: it went nowhere", 4, line.ofTrain(0, 4));
        line.go(0, 30);
        checks.dueState("21: it has left", line, () -> line.ahead(0, 0));
        checks.dueArgument("21: it has left, by too many", line, () -> line.ahead(0, 31));
    }

    private void isSound() {
        Miceline line = Lines.bothOn();
        checks.due("22: a loose lock", true, line.isSound());
        line.go(0, 2);
        line.go(1, 2);
        checks.due("22: clashes by a loose lock", 1, line.line(9));
        checks.due("22: clashes by a loose lock", true, line.isSound());
        Miceline liars = Lines.withSections(1, 1);
        liars.route(0, 1, NONE);
        liars.train(0, 6, 2);
        liars.train(0, 6, 3);
        liars.lie(true, 0, true);
        liars.lie(false, 0, true);
        liars.pass(9);
        liars.pull(0);
        liars.enter(0);
        liars.back(0);
        liars.pull(0);
        liars.enter(1);
        checks.due("22: clashes by two that lie", 1, liars.line(9));
        checks.due("22: clashes by two that lie", true, liars.isSound());
        liars.lie(true, 0, false);
        checks.due("22: they lied at once before", true, liars.isSound());
    }

    private void digest() {
        Miceline line = new Miceline();
        long before = line.digest();
        checks.due("23: it changes nothing", before, line.digest());
        checks.due("23: new", dueDigest(line), before);
        Miceline full = Lines.bothOn();
        checks.due("23: two on", dueDigest(full), full.digest());
        full.lie(false, 1, true);
        full.cat(0, true);
        full.pass(9);
        full.train(1, 4, 5);
        full.go(0, 3);
        full.section(5);
        full.route(3, 2, 0);
        full.knock();
        checks.due("23: much of all", dueDigest(full), full.digest());
        full.loose(0, 2, true);
        checks.due("23: another lock", dueDigest(full), full.digest());
    }

    private static long dueDigest(Miceline line) {
        long d = 9103;
        for (int what = 0; what <= 16; what++) {
            d = d * 31 + line.line(what);
        }
        for (int section = 0; section < line.line(0); section++) {
            for (int what = 0; what <= 6; what++) {
                d = d * 31 + line.ofSection(section, what);
            }
        }
        for (int route = 0; route < line.line(1); route++) {
            for (int what = 0; what <= 9; what++) {
                d = d * 31 + line.ofRoute(route, what);
            }
            d = d * 31 + line.would(route, true);
            d = d * 31 + line.would(route, false);
        }
        for (int train = 0; train < line.line(3); train++) {
            for (int what = 0; what <= 6; what++) {
                d = d * 31 + line.ofTrain(train, what);
            }
        }
        d = d * 31 + line.danger((1 << line.line(0)) - 1, (1 << line.line(1)) - 1);
        d = d * 31 + line.danger(0, 0);
        d = d * 31 + line.sight().length();
        return d * 31 + (line.isSound() ? 1 : 0);
    }
}
