/** The sentences of the promises that name a boundary case, each with a test of its own. */
public final class BoundsTest {
    private static final int NONE = FramedLine.NONE;
    private static final int LEAST = Integer.MIN_VALUE;
    private static final int MOST = Integer.MAX_VALUE;
    private static final int[] ENDS = {0, 1};
    private static final int[] NO_ENDS = {-1, 2, LEAST, MOST};

    private BoundsTest() {
    }

    public static void main(String[] args) {
        Due.each(BoundsTest::atMost512Calls, BoundsTest::nothingWasSent);
        Due.each(BoundsTest::endOfLoad, BoundsTest::slotOfLoad, BoundsTest::valueOfLoad, BoundsTest::whatItWasBefore);
        Due.each(BoundsTest::endOfDisturb, BoundsTest::timeOfDisturb, BoundsTest::symbolOfDisturb,
                BoundsTest::nextTimeIsTheFirst, BoundsTest::inPlaceOfWhatWasSaid, BoundsTest::howManyAreToBeDisturbed,
                BoundsTest::eightOthers, BoundsTest::roomWhenOneOfEightIsOver,
                BoundsTest::wrongArgumentsWhenEightAreToBe);
        Due.each(BoundsTest::endOfSlip, BoundsTest::slipSaidBefore, BoundsTest::slipDisturbedOrNot,
                BoundsTest::slipOfTheNextTimeAlone);
        Due.each(BoundsTest::timesOfPass, BoundsTest::timesFromTheBeginning);
        Due.each(BoundsTest::endOfSymbol, BoundsTest::symbolBefore);
        Due.each(BoundsTest::endOfAligned);
        Due.each(BoundsTest::endOfFrame, BoundsTest::frameNotKnown, BoundsTest::noFrameSinceAligned);
        Due.each(BoundsTest::endAndSlotOfSlot, BoundsTest::slotsNoneEver, BoundsTest::slotsBehindALoss);
        Due.each(BoundsTest::endOfAlarm, BoundsTest::alarmNeverReceived);
        Due.each(BoundsTest::endAndWhatOfCount, BoundsTest::whatIsCounted);
        Due.each(BoundsTest::refusedCallsAtAnyTime, BoundsTest::refusedCallsChangeNothing);
        Due.end();
    }

    private static void atMost512Calls() {
        Due.sentence("what it is", "An object is used for at most 512 calls");
        FramedLine x = new FramedLine();
        for (int call = 1; call <= 508; call++) {
            x.pass(600);
        }
        Due.is("the 509th, pass", x.pass(600), 509 * 600);
        int complete = (509 * 600 - 6) / 32;
        Due.is("the 510th, frames", x.count(1, 0), complete - 2);
        Due.is("the 511th, aligned", x.aligned(0), true);
        Due.is("the 512th, frame", x.frame(1), (complete - 1) % 16);
    }

    // promise 1

    private static void nothingWasSent() {
        Due.sentence("promise 1", "Nothing was sent.");
        FramedLine x = new FramedLine();
        String none = " 0 false -1 [-1 -1 -1 -1] false [0 0 0 0 0]";
        Due.is("all", allAnswers(x), none + none);
        Due.is("no time passed", x.pass(1), 1);
    }

    // promise 2

    private static void endOfLoad() {
        Due.sentence("promise 2", "end is not 0 or 1");
        FramedLine x = new FramedLine();
        Due.takesEach(ENDS, end -> x.load(end, 1, 1));
        Due.refusesEach(NO_ENDS, end -> x.load(end, 1, 1));
    }

    private static void slotOfLoad() {
        Due.sentence("promise 2", "slot not 1 .. 3");
        FramedLine x = new FramedLine();
        for (int end : ENDS) {
            Due.takesEach(new int[] {1, 2, 3}, slot -> x.load(end, slot, 1));
            Due.refusesEach(new int[] {0, 4, -1, LEAST, MOST}, slot -> x.load(end, slot, 1));
        }
    }

    private static void valueOfLoad() {
        Due.sentence("promise 2", "value not 0 .. 255");
        Timed x = new Timed();
        for (int end : ENDS) {
            Due.takesEach(new int[] {1, 254, 0, 255}, value -> x.line.load(end, 1, value));
            Due.refusesEach(new int[] {-1, 256, LEAST, MOST}, value -> x.line.load(end, 1, value));
        }
        x.line.load(1, 1, 0);
        x.to(Timed.complete(2));
        Due.is("the largest comes", x.line.slot(1, 1), 255);
        Due.is("the smallest comes", x.line.slot(0, 1), 0);
    }

    private static void whatItWasBefore() {
        Due.sentence("promise 2", "what it was before");
        FramedLine x = new FramedLine();
        for (int end : ENDS) {
            for (int slot = 1; slot <= 3; slot++) {
                Due.is("at first", x.load(end, slot, 10 * slot + end), 0);
            }
        }
        Due.refuses("refused", () -> x.load(0, 2, 256));
        for (int end : ENDS) {
            for (int slot = 1; slot <= 3; slot++) {
                Due.is("then", x.load(end, slot, 255), 10 * slot + end);
                Due.is("then again", x.load(end, slot, 0), 255);
            }
        }
    }

    // promise 3

    private static void endOfDisturb() {
        Due.sentence("promise 3", "end is not 0 or 1");
        FramedLine x = new FramedLine();
        Due.takesEach(ENDS, end -> x.disturb(end, 1, 1));
        Due.refusesEach(NO_ENDS, end -> x.disturb(end, 1, 1));
    }

    private static void timeOfDisturb() {
        Due.sentence("promise 3", "n not 1 .. 1000");
        Timed x = new Timed();
        for (int end : ENDS) {
            Due.takesEach(new int[] {1, 2, 999, 1000}, n -> x.line.disturb(end, n, 1));
            Due.refusesEach(new int[] {0, 1001, -1, LEAST, MOST}, n -> x.line.disturb(end, n, 1));
        }
        Due.is("the nearest two come", x.symbols(0, 2), "++");
        x.to(998);
        Due.is("the farthest two come", x.symbols(0, 2), "++");
        Due.is("none is left", x.line.disturb(0, 1, 0), 1);
    }

    private static void symbolOfDisturb() {
        Due.sentence("promise 3", "symbol not -1, 0, 1");
        Timed x = new Timed();
        for (int end : ENDS) {
            Due.takesEach(new int[] {-1, 0, 1}, symbol -> x.line.disturb(end, 2 + symbol, symbol));
            Due.refusesEach(new int[] {-2, 2, LEAST, MOST}, symbol -> x.line.disturb(end, 1, symbol));
        }
        Due.is("they come", x.symbols(0, 3), "-0+");
        // in time 7 the pulse of the first bit 1 would come
        x.line.disturb(1, 4, 0);
        x.to(7);
        Due.is("a pulse becomes 0", x.line.symbol(1), 0);
        Due.is("not at the other end", x.line.symbol(0), 1);
    }

    private static void nextTimeIsTheFirst() {
        Due.sentence("promise 3", "the n-th time from now (1 is the next one)");
        Timed x = new Timed();
        x.line.disturb(0, 1, 1);
        x.line.disturb(0, 3, 1);
        Due.is("from the beginning", x.symbols(0, 3), "+0+");
        x.line.disturb(0, 1, -1);
        x.line.disturb(0, 2, -1);
        Due.is("from later on", x.symbols(0, 3), "--0");
    }

    private static void inPlaceOfWhatWasSaid() {
        Due.sentence("promise 3", "in place of what was said for it before");
        Timed x = new Timed();
        Due.is("said", x.line.disturb(0, 2, 1), 1);
        Due.is("said again", x.line.disturb(0, 2, -1), 1);
        Due.is("said for another time", x.line.disturb(0, 4, 1), 2);
        x.to(1);
        Due.is("said again from later on", x.line.disturb(0, 3, -1), 2);
        Due.is("they come", x.symbols(0, 3), "-0-");
    }

    private static void howManyAreToBeDisturbed() {
        Due.sentence("promise 3", "how many are to be disturbed at that end");
        FramedLine x = new FramedLine();
        Due.is("one", x.disturb(0, 5, 1), 1);
        Due.is("one at the other end", x.disturb(1, 5, 1), 1);
        Due.is("to what would come anyway", x.disturb(0, 1, 0), 2);
        Due.is("three", x.disturb(0, 1000, 1), 3);
        x.pass(1);
        Due.is("one of three is over", x.disturb(0, 3, 1), 3);
        x.pass(4);
        Due.is("three of four are over", x.disturb(0, 1, 1), 2);
        Due.is("one is over at the other end", x.disturb(1, 1, 1), 1);
    }

    private static void eightOthers() {
        Due.sentence("promise 3", "IllegalStateException: eight others are to be");
        for (int end : ENDS) {
            Timed x = new Timed();
            for (int n = 1; n <= 7; n++) {
                x.line.disturb(end, n, 1);
            }
            Due.is("seven others", x.line.disturb(end, 8, 1), 8);
            Due.is("eight others", fails(x, end, 9), true);
            Due.is("eight others, far away", fails(x, end, 1000), true);
            Due.is("seven others and this one", x.line.disturb(end, 8, -1), 8);
            Due.is("the first of the eight", x.line.disturb(end, 1, -1), 8);
            Due.is("none at the other end", x.line.disturb(1 - end, 9, 1), 1);
            Due.is("what was said comes, not what was refused", x.symbols(end, 9), "-++++++-0");
        }
    }

    private static void roomWhenOneOfEightIsOver() {
        Due.sentence("promise 3", "eight others are to be");
        Timed x = new Timed();
        for (int n = 2; n <= 9; n++) {
            x.line.disturb(0, n, 1);
        }
        x.to(1);
        Due.is("none is over", fails(x, 0, 9), true);
        x.to(2);
        Due.is("one is over", x.line.disturb(0, 8, -1), 8);
        Due.is("eight again", fails(x, 0, 9), true);
        Due.is("all come", x.symbols(0, 8), "+++++++-");
    }

    private static void wrongArgumentsWhenEightAreToBe() {
        Due.sentence("promise 3", "IllegalArgumentException: end is not 0 or 1, n not 1 .. 1000, or symbol not -1, 0, 1");
        FramedLine x = new FramedLine();
        for (int n = 1; n <= 8; n++) {
            x.disturb(0, n, 1);
            x.disturb(1, n, 1);
        }
        Due.refusesEach(NO_ENDS, end -> x.disturb(end, 9, 1));
        Due.refusesEach(new int[] {0, 1001}, n -> x.disturb(0, n, 1));
        Due.refusesEach(new int[] {-2, 2}, symbol -> x.disturb(1, 9, symbol));
    }

    private static boolean fails(Timed x, int end, int n) {
        return Due.answer(() -> x.line.disturb(end, n, 1)).equals("throws.IllegalStateException");
    }

    // promise 4

    private static void endOfSlip() {
        Due.sentence("promise 4", "end is not 0 or 1");
        FramedLine x = new FramedLine();
        Due.takesEach(ENDS, x::slip);
        Due.refusesEach(NO_ENDS, x::slip);
    }

    private static void slipSaidBefore() {
        Due.sentence("promise 4", "false when that was said before");
        FramedLine x = new FramedLine();
        Due.is("said", x.slip(0), true);
        Due.is("said twice", x.slip(0), false);
        Due.is("said thrice", x.slip(0), false);
        Due.is("said at the other end", x.slip(1), true);
        x.pass(1);
        Due.is("said for the time behind", x.slip(0), true);
        Due.is("said twice for it", x.slip(0), false);
        x.pass(5);
        Due.is("said for a later one", x.slip(1), true);
    }

    private static void slipDisturbedOrNot() {
        Due.sentence("promise 4", "slips (disturbed or not)");
        // a pulse that comes twice is a violation, and no V
        Due.is("disturbed, then said", faultsOfTheFirst(true, false), 1);
        Due.is("said, then disturbed", faultsOfTheFirst(false, true), 1);
        FramedLine x = new FramedLine();
        x.pass(6);
        x.slip(1);
        x.pass(1);
        Due.is("a pulse that is not disturbed", x.count(1, 1), 1);
        Due.is("none at the other end", x.count(0, 1), 0);
        FramedLine y = new FramedLine();
        y.pass(6);
        y.slip(1);
        y.disturb(1, 1, 0);
        y.pass(2);
        Due.is("a pulse that becomes 0", y.count(1, 1), 0);
    }

    private static int faultsOfTheFirst(boolean disturbFirst, boolean disturbThen) {
        FramedLine x = new FramedLine();
        if (disturbFirst) {
            x.disturb(0, 1, -1);
        }
        x.slip(0);
        if (disturbThen) {
            x.disturb(0, 1, -1);
        }
        x.pass(1);
        Due.is("as it came", x.symbol(0), -1);
        return x.count(0, 1);
    }

    private static void slipOfTheNextTimeAlone() {
        Due.sentence("promise 4", "The symbol that comes to an end in the next time slips");
        Timed x = new Timed().to(Timed.ALIGNED);
        x.line.slip(1);
        x.line.slip(1);
        Due.is("one bit more", x.to(Timed.complete(2) - 1).line.count(1, 0), 1);
        Due.is("none more in the next frame", x.to(Timed.complete(3) - 2).line.count(1, 0), 1);
        Due.is("nor fewer", x.to(Timed.complete(3) - 1).line.count(1, 0), 2);
        Due.is("none at the other end", x.line.count(0, 0), 1);
    }

    // promise 5

    private static void timesOfPass() {
        Due.sentence("promise 5", "n is not 1 .. 600");
        FramedLine x = new FramedLine();
        Due.takesEach(new int[] {1, 2, 599, 600}, x::pass);
        Due.refusesEach(new int[] {0, 601, -1, LEAST, MOST}, x::pass);
        Due.is("what was refused did not pass", x.pass(1), 1203);
    }

    private static void timesFromTheBeginning() {
        Due.sentence("promise 5", "how many did from the beginning");
        FramedLine x = new FramedLine();
        Due.is("the first", x.pass(1), 1);
        Due.is("the most at once", x.pass(600), 601);
        x.slip(0);
        Due.is("a time with a slip is one", x.pass(1), 602);
        Timed y = new Timed();
        y.line.pass(78);
        Due.is("so many pass", y.line.aligned(0) && y.line.aligned(1), true);
    }

    // promise 6

    private static void endOfSymbol() {
        Due.sentence("promise 6", "end is not 0 or 1");
        FramedLine x = new FramedLine();
        Due.takesEach(ENDS, x::symbol);
        Due.refusesEach(NO_ENDS, x::symbol);
    }

    private static void symbolBefore() {
        Due.sentence("promise 6", "The latest symbol that an end's receiver took; 0 before.");
        FramedLine x = new FramedLine();
        x.disturb(0, 1, -1);
        x.disturb(1, 1, 1);
        x.disturb(1, 2, -1);
        Due.is("before, end 0", x.symbol(0), 0);
        Due.is("before, end 1", x.symbol(1), 0);
        x.pass(1);
        Due.is("the first, end 0", x.symbol(0), -1);
        Due.is("the first, end 1", x.symbol(1), 1);
        x.pass(1);
        Due.is("the second, end 0", x.symbol(0), 0);
        Due.is("the second, end 1", x.symbol(1), -1);
    }

    // promises 7 and 8

    private static void endOfAligned() {
        Due.sentence("promise 7", "IllegalArgumentException.");
        FramedLine x = new FramedLine();
        Due.takesEach(ENDS, x::aligned);
        Due.refusesEach(NO_ENDS, x::aligned);
    }

    private static void endOfFrame() {
        Due.sentence("promise 8", "IllegalArgumentException.");
        FramedLine x = new FramedLine();
        Due.takesEach(ENDS, x::frame);
        Due.refusesEach(NO_ENDS, x::frame);
    }

    private static void frameNotKnown() {
        Due.sentence("promise 8", "NONE when it is not known");
        Timed x = new Timed().to(Timed.complete(2));
        Due.is("a frame is complete", x.line.frame(0), NONE);
        Due.is("right before it is known", x.to(Timed.complete(27) - 1).line.frame(0), NONE);
        Due.is("known", x.to(Timed.complete(27)).line.frame(0), 11);
        x.breakM(0, 37).breakM(0, 53);
        Due.is("right before it is lost", x.to(Timed.complete(59) - 1).line.frame(0), 10);
        Due.is("not known any more", x.to(Timed.complete(59)).line.frame(0), NONE);
    }

    private static void noFrameSinceAligned() {
        Due.sentence("promise 8", "or no frame is complete since it was aligned");
        Timed x = new Timed();
        Due.is("never aligned", x.line.frame(1), NONE);
        x.to(Timed.ALIGNED);
        Due.is("aligned first", x.line.frame(1), NONE);
        x.to(1000).breakWord(1, 32).breakWord(1, 34).breakWord(1, 36).to(32 * 36 + 14);
        Due.is("lost", x.line.frame(1), NONE);
        x.to(32 * 40 + 14);
        Due.is("aligned again", x.line.aligned(1), true);
        Due.is("none complete since", x.line.frame(1), NONE);
    }

    // promise 9

    private static void endAndSlotOfSlot() {
        Due.sentence("promise 9", "end or slot is none of these");
        FramedLine x = new FramedLine();
        for (int time = 0; time < 2; time++) {
            for (int slot = 0; slot <= 3; slot++) {
                int any = slot;
                Due.takesEach(ENDS, end -> x.slot(end, any));
                Due.refusesEach(NO_ENDS, end -> x.slot(end, any));
            }
            for (int end : ENDS) {
                Due.refusesEach(new int[] {-1, 4, LEAST, MOST}, slot -> x.slot(end, slot));
            }
            x.pass(200);
        }
    }

    private static void slotsNoneEver() {
        Due.sentence("promise 9", "NONE when there was none ever");
        Timed x = new Timed().loadAll(0, 1, 2, 3);
        Due.is("new", slots(x, 1), "-1 -1 -1 -1");
        Due.is("aligned", slots(x.to(Timed.ALIGNED), 1), "-1 -1 -1 -1");
        Due.is("right before", slots(x.to(Timed.complete(2) - 1), 1), "-1 -1 -1 -1");
        Due.is("one", slots(x.to(Timed.complete(2)), 1), "27 1 2 3");
    }

    private static void slotsBehindALoss() {
        Due.sentence("promise 9", "also when alignment was lost behind it");
        Timed x = new Timed().loadAll(0, 1, 2, 3).to(100);
        x.breakWord(1, 4).breakWord(1, 6).breakWord(1, 8).to(32 * 7);
        // frame 7 has these, frame 8 and those behind it others
        x.loadAll(0, 255, 0, 128).to(32 * 8).loadAll(0, 9, 9, 9).to(32 * 8 + 14);
        Due.is("lost", x.line.aligned(1), false);
        Due.is("right behind the loss", slots(x, 1), "95 255 0 128");
        x.to(32 * 12 + 14);
        Due.is("aligned again", x.line.aligned(1), true);
        Due.is("until the next is complete", slots(x.to(Timed.complete(12) - 1), 1), "95 255 0 128");
        x.to(Timed.complete(12));
        Due.is("the next", x.line.slot(1, 1) + " " + x.line.slot(1, 2) + " " + x.line.slot(1, 3), "9 9 9");
    }

    private static String slots(Timed x, int end) {
        return x.line.slot(end, 0) + " " + x.line.slot(end, 1) + " " + x.line.slot(end, 2) + " " + x.line.slot(end, 3);
    }

    // promise 10

    private static void endOfAlarm() {
        Due.sentence("promise 10", "IllegalArgumentException.");
        FramedLine x = new FramedLine();
        Due.takesEach(ENDS, x::alarm);
        Due.refusesEach(NO_ENDS, x::alarm);
    }

    private static void alarmNeverReceived() {
        Due.sentence("promise 10", "false when it never did");
        // end 0 is aligned two frames late, so that frame 3 tells an alarm to end 1
        Timed x = new Timed().disturbBit(0, 1, 2, 0);
        Due.is("new", x.line.alarm(1), false);
        Due.is("frame 1 told one, but was not taken", x.to(Timed.ALIGNED).line.alarm(1), false);
        Due.is("only an even frame is complete", x.to(Timed.complete(2)).line.alarm(1), false);
        Due.is("right before", x.to(Timed.complete(3) - 1).line.alarm(1), false);
        Due.is("received", x.to(Timed.complete(3)).line.alarm(1), true);
    }

    // promise 11

    private static void endAndWhatOfCount() {
        Due.sentence("promise 11", "end or what is none of these");
        FramedLine x = new FramedLine();
        for (int what = 0; what <= 4; what++) {
            int any = what;
            Due.takesEach(ENDS, end -> x.count(end, any));
            Due.refusesEach(NO_ENDS, end -> x.count(end, any));
        }
        for (int end : ENDS) {
            Due.refusesEach(new int[] {-1, 5, LEAST, MOST}, what -> x.count(end, what));
        }
    }

    private static void whatIsCounted() {
        Due.sentence("promise 11", "0 complete frames, 1 code faults, 2 losses of alignment, 3 halves found wrong, 4 far faults");
        Timed x = new Timed().to(800).loadAll(0, 255, 255, 255).loadAll(1, 255, 255, 255).to(920);
        // frames 33 and 41 get a wrong bit each, and so a violation; frames 29, 31 and 45 a far fault each
        x.breakSlot(1, 33).breakSlot(1, 41).breakM(1, 29).breakM(1, 31).breakM(1, 45).to(Timed.complete(57));
        Due.is("frames 2 .. 57", x.line.count(1, 0), 56);
        Due.is("code faults", x.line.count(1, 1), 5);
        Due.is("no loss yet", x.line.count(1, 2), 0);
        Due.is("wrong halves", x.line.count(1, 3), 2);
        Due.is("far faults", x.line.count(1, 4), 3);
        x.breakWord(1, 60).breakWord(1, 62).breakWord(1, 64).to(32 * 64 + 14);
        Due.is("a loss", x.line.count(1, 2), 1);
        Due.is("frames 2 .. 63", x.line.count(1, 0), 62);
        Due.is("counts stay", x.line.count(1, 3) + " " + x.line.count(1, 4), "2 3");
    }

    // refused calls

    private static void refusedCallsAtAnyTime() {
        Due.sentence("promises 2 to 11", "IllegalArgumentException");
        Timed x = new Timed();
        // new, searching, a word is tried, aligned, a frame is complete, the number is known, lost, aligned again
        for (int time : new int[] {0, 10, 40, 78, 102, 950, 32 * 36 + 20, 32 * 40 + 20}) {
            if (time == 32 * 36 + 20) {
                x.breakWord(1, 32).breakWord(1, 34).breakWord(1, 36);
            }
            refuseAll(x.to(time).line);
        }
    }

    private static void refuseAll(FramedLine x) {
        Due.refusesEach(NO_ENDS, end -> x.load(end, 1, 7));
        Due.refusesEach(new int[] {0, 4}, slot -> x.load(1, slot, 7));
        Due.refusesEach(new int[] {-1, 256}, value -> x.load(0, 3, value));
        Due.refusesEach(NO_ENDS, end -> x.disturb(end, 1, 1));
        Due.refusesEach(new int[] {0, 1001}, n -> x.disturb(1, n, 1));
        Due.refusesEach(new int[] {-2, 2}, symbol -> x.disturb(0, 1, symbol));
        Due.refusesEach(NO_ENDS, x::slip);
        Due.refusesEach(new int[] {0, 601}, x::pass);
        Due.refusesEach(NO_ENDS, x::symbol);
        Due.refusesEach(NO_ENDS, x::aligned);
        Due.refusesEach(NO_ENDS, x::frame);
        Due.refusesEach(NO_ENDS, end -> x.slot(end, 0));
        Due.refusesEach(new int[] {-1, 4}, slot -> x.slot(1, slot));
        Due.refusesEach(NO_ENDS, x::alarm);
        Due.refusesEach(NO_ENDS, end -> x.count(end, 0));
        Due.refusesEach(new int[] {-1, 5}, what -> x.count(0, what));
    }

    private static void refusedCallsChangeNothing() {
        Due.sentence("promises 2 to 11", "IllegalArgumentException");
        for (int time : new int[] {0, 20, 90, 920}) {
            Timed refusing = busy(time);
            Timed other = busy(time);
            String before = allAnswers(refusing.line);
            refuseAll(refusing.line);
            Due.is("right behind", allAnswers(refusing.line), before);
            for (int end : ENDS) {
                Due.is("no slip is said", refusing.line.slip(end), other.line.slip(end));
                Due.is("no more are disturbed", refusing.line.disturb(end, 9, 1), other.line.disturb(end, 9, 1));
            }
            for (int i = 1; i <= 36; i += 5) {
                Due.is("later", allAnswers(refusing.to(time + i).line), allAnswers(other.to(time + i).line));
            }
            Due.is("much later", allAnswers(refusing.to(time + 2000).line), allAnswers(other.to(time + 2000).line));
        }
    }

    /** An object with something loaded, to be disturbed and to slip. */
    private static Timed busy(int time) {
        Timed x = new Timed().loadAll(0, 1, 2, 3).loadAll(1, 0xF0, 0, 0x1B).to(time);
        x.line.disturb(0, 1, 1);
        x.line.disturb(1, 30, -1);
        x.line.slip(1);
        return x;
    }

    private static String allAnswers(FramedLine x) {
        StringBuilder all = new StringBuilder();
        for (int end : ENDS) {
            all.append(' ').append(x.symbol(end)).append(' ').append(x.aligned(end)).append(' ').append(x.frame(end));
            for (int slot = 0; slot <= 3; slot++) {
                all.append(slot == 0 ? " [" : " ").append(x.slot(end, slot));
            }
            all.append("] ").append(x.alarm(end));
            for (int what = 0; what <= 4; what++) {
                all.append(what == 0 ? " [" : " ").append(x.count(end, what));
            }
            all.append(']');
        }
        return all.toString();
    }
}
