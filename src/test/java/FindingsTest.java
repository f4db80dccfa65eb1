/** Promises 7 to 11, by answers worked out by hand. */
public final class FindingsTest {
    private static final int NONE = FramedLine.NONE;
    private static final int[] NO_ENDS = {-1, 2, Integer.MIN_VALUE, Integer.MAX_VALUE};

    private FindingsTest() {
    }

    public static void main(String[] args) {
        Due.each(
                FindingsTest::aligned, FindingsTest::alignedBehindATrial, FindingsTest::alignmentIsLost,
                FindingsTest::alignmentIsKept, FindingsTest::frame, FindingsTest::frameWhenAlignmentIsLost,
                FindingsTest::frameWhenTheNumberIsLost, FindingsTest::frameWhenTheNumberIsKept, FindingsTest::slot,
                FindingsTest::slotWithCheckBits, FindingsTest::alarm, FindingsTest::alarmOfAnEndThatIsAlignedLate,
                FindingsTest::countOfFrames, FindingsTest::countOfWrongFirstHalves,
                FindingsTest::countOfWrongSecondHalves, FindingsTest::countOfHalvesThatBeginNotKnown,
                FindingsTest::countOfHalvesThatEndNotKnown, FindingsTest::countOfWrongCheckBits,
                FindingsTest::wrongIsForgottenWithTheAlignment, FindingsTest::wrongIsForgottenWithTheNumber);
        Due.end();
    }

    // promise 7
    private static void aligned() {
        Timed x = new Timed().to(Timed.ALIGNED - 1);
        Due.is("7: not yet", x.line.aligned(0) || x.line.aligned(1), false);
        x.to(Timed.ALIGNED);
        Due.is("7: both", x.line.aligned(0) && x.line.aligned(1), true);
        for (int wrong : NO_ENDS) {
            Due.refuses("7: end " + wrong, () -> x.line.aligned(wrong));
        }
    }

    private static void alignedBehindATrial() {
        // the second bit of frame 1 is 0: the next word is that of frame 2
        Timed x = new Timed().disturbBit(1, 1, 2, 0);
        Due.is("7: no second bit 1", x.to(Timed.ALIGNED + 63).line.aligned(1), false);
        Due.is("7: two frames later", x.to(Timed.ALIGNED + 64).line.aligned(1), true);

        // the word of frame 2 is wrong: the next word is that of frame 4
        Timed y = new Timed().disturbBit(1, 2, 7, 0);
        Due.is("7: no second word", y.to(Timed.ALIGNED + 127).line.aligned(1), false);
        Due.is("7: four frames later", y.to(Timed.ALIGNED + 128).line.aligned(1), true);
        Due.is("11: a trial that fails is no loss", y.line.count(1, 2), 0);
    }

    private static void alignmentIsLost() {
        Timed x = new Timed().to(100).breakWord(1, 4).breakWord(1, 6).breakWord(1, 8);
        x.line.load(0, 1, 77);
        int lost = 32 * 8 + 14;
        x.to(lost - 1);
        Due.is("7: two wrong", x.line.aligned(1), true);
        Due.is("11: two wrong", x.line.count(1, 2), 0);
        x.to(lost);
        Due.is("7: three wrong", x.line.aligned(1), false);
        Due.is("7: the other end", x.line.aligned(0), true);
        Due.is("11: a loss", x.line.count(1, 2), 1);
        Due.is("11: no loss at the other end", x.line.count(0, 2), 0);
        Due.is("11: frames 2 to 7", x.line.count(1, 0), 6);
        Due.is("9: when alignment was lost", x.line.slot(1, 1), 77);
        int found = 32 * 12 + 14;
        Due.is("7: searching", x.to(found - 1).line.aligned(1), false);
        Due.is("7: aligned with frame 12", x.to(found).line.aligned(1), true);
        Due.is("11: no frame since", x.line.count(1, 0), 6);
        Due.is("11: frame 12", x.to(Timed.complete(12)).line.count(1, 0), 7);
    }

    private static void alignmentIsKept() {
        Timed x = new Timed().to(100);
        x.breakWord(1, 4).breakWord(1, 6).breakWord(1, 10).breakWord(1, 12).to(600);
        Due.is("7: two in a row, twice", x.line.aligned(1), true);
        Due.is("11: two in a row, twice", x.line.count(1, 2), 0);
    }

    // promise 8
    private static void frame() {
        Timed x = new Timed().to(Timed.complete(27) - 1);
        Due.is("8: not yet known", x.line.frame(0), NONE);
        for (int frame = 27; frame < 70; frame++) {
            x.to(Timed.complete(frame));
            Due.is("8: end 0", x.line.frame(0), frame % 16);
            Due.is("8: end 1", x.line.frame(1), frame % 16);
            x.to(Timed.complete(frame + 1) - 1);
            Due.is("8: until the next is complete", x.line.frame(1), frame % 16);
        }
        for (int wrong : NO_ENDS) {
            Due.refuses("8: end " + wrong, () -> x.line.frame(wrong));
        }
    }

    private static void frameWhenAlignmentIsLost() {
        Timed x = new Timed().to(1000).breakWord(1, 32).breakWord(1, 34).breakWord(1, 36);
        int lost = 32 * 36 + 14;
        Due.is("8: before", x.to(lost - 1).line.frame(1), 3);
        Due.is("8: lost", x.to(lost).line.frame(1), NONE);
        Due.is("8: not at the other end", x.line.frame(0), 3);
        x.to(32 * 40 + 14);
        Due.is("8: aligned anew", x.line.aligned(1), true);
        // frame 43 is the second odd one since: the six that are looked at end with frame 59
        Due.is("8: frame 43", x.to(Timed.complete(43)).line.frame(1), NONE);
        Due.is("8: frame 58", x.to(Timed.complete(58)).line.frame(1), NONE);
        Due.is("8: frame 59", x.to(Timed.complete(59)).line.frame(1), 11);
    }

    private static void frameWhenTheNumberIsLost() {
        Timed x = new Timed().to(1000).breakM(1, 37).breakM(1, 53);
        Due.is("8: wrong in one round", x.to(Timed.complete(43)).line.frame(1), 11);
        Due.is("8: before the second", x.to(Timed.complete(59) - 1).line.frame(1), 10);
        x.to(Timed.complete(59));
        Due.is("8: wrong in two rounds", x.line.frame(1), NONE);
        Due.is("8: at the other end", x.line.frame(0), 11);
        Due.is("8: still aligned", x.line.aligned(1), true);
        Due.is("8: before the next right one", x.to(Timed.complete(75) - 1).line.frame(1), NONE);
        Due.is("8: known again", x.to(Timed.complete(75)).line.frame(1), 11);
    }

    private static void frameWhenTheNumberIsKept() {
        Timed x = new Timed().to(1000).breakM(1, 37).to(2000).breakM(1, 69).to(Timed.complete(75));
        Due.is("8: a right round between two wrong ones", x.line.frame(1), 11);
    }

    // promise 9
    private static void slot() {
        Timed x = new Timed().loadAll(0, 0x81, 0x42, 0x18).to(Timed.complete(2) - 1);
        Due.is("9: none yet", x.line.slot(1, 0), NONE);
        x.to(Timed.complete(2));
        Due.is("9: slot 0 of frame 2", x.line.slot(1, 0), 0x1B);
        Due.is("9: slot 1", x.line.slot(1, 1), 0x81);
        Due.is("9: slot 2", x.line.slot(1, 2), 0x42);
        Due.is("9: slot 3", x.line.slot(1, 3), 0x18);
        Due.is("9: at the other end", x.line.slot(0, 1), 0);
        int[] oddSlots = {0x5F, 0xDF, 0x5F, 0xDF, 0xDF, 0xDF, 0xDF, 0x5F, 0x5F, 0xDF};
        for (int i = 0; i < oddSlots.length; i++) {
            x.to(Timed.complete(3 + 2 * i));
            Due.is("9: slot 0 of frame " + (3 + 2 * i), x.line.slot(1, 0), oddSlots[i]);
        }
        for (int wrong : NO_ENDS) {
            Due.refuses("9: end " + wrong, () -> x.line.slot(wrong, 0));
        }
        for (int wrong : new int[] {-1, 4, Integer.MIN_VALUE, Integer.MAX_VALUE}) {
            Due.refuses("9: slot " + wrong, () -> x.line.slot(0, wrong));
        }
    }

    private static void slotWithCheckBits() {
        Due.is("9: C of zeros", checkBits(0, 0, 0), "000 0111 1001 0110");
        Due.is("9: C of small bytes", checkBits(1, 2, 3), "000 1100 0010 1101");
        Due.is("9: C of others", checkBits(0xA5, 0x5A, 0xFF), "000 1011 0101 1010");
    }

    /** C as it comes in the first half, but for frame 0, and in the three halves behind it. */
    private static String checkBits(int first, int second, int third) {
        Timed x = new Timed().loadAll(0, first, second, third);
        StringBuilder bits = new StringBuilder();
        for (int frame = 2; frame < 32; frame += 2) {
            x.to(Timed.complete(frame));
            bits.append(frame % 8 == 0 ? " " : "").append(x.line.slot(1, 0) >> 7);
        }
        return bits.toString();
    }

    // promise 10
    private static void alarm() {
        Timed x = new Timed().to(Timed.complete(3));
        Due.is("10: frame 3, begun when aligned", x.line.alarm(0) || x.line.alarm(1), false);
        // lost with the word of frame 10, aligned anew with that of frame 14
        x.breakWord(1, 6).breakWord(1, 8).breakWord(1, 10);
        Due.is("10: not yet", x.to(Timed.complete(11) - 1).line.alarm(0), false);
        Due.is("10: frame 11", x.to(Timed.complete(11)).line.alarm(0), true);
        Due.is("10: not at the other end", x.line.alarm(1), false);
        Due.is("10: until another comes", x.to(Timed.complete(15) - 1).line.alarm(0), true);
        Due.is("10: frame 15", x.to(Timed.complete(15)).line.alarm(0), false);
        for (int wrong : NO_ENDS) {
            Due.refuses("10: end " + wrong, () -> x.line.alarm(wrong));
        }
    }

    private static void alarmOfAnEndThatIsAlignedLate() {
        Timed x = new Timed().disturbBit(0, 1, 2, 0);
        Due.is("10: no odd frame yet", x.to(Timed.complete(3) - 1).line.alarm(1), false);
        Due.is("10: frame 3", x.to(Timed.complete(3)).line.alarm(1), true);
        Due.is("10: frame 4 tells none", x.to(Timed.complete(4)).line.alarm(1), true);
        Due.is("10: frame 5", x.to(Timed.complete(5)).line.alarm(1), false);

        // the alarm of frame 9 stays when the end that got it is not aligned itself any more
        Timed y = new Timed().to(100).breakWord(0, 4).breakWord(0, 6).breakWord(0, 8);
        y.breakWord(1, 6).breakWord(1, 8).breakWord(1, 10).to(32 * 10 + 14);
        Due.is("7: both are lost", y.line.aligned(0) || y.line.aligned(1), false);
        Due.is("10: as it came before", y.line.alarm(1), true);
        Due.is("10: until another comes", y.to(Timed.complete(15) - 1).line.alarm(1), true);
        Due.is("10: another came", y.to(Timed.complete(15)).line.alarm(1), false);
    }

    // promise 11
    private static void countOfFrames() {
        Timed x = new Timed();
        for (int wrong : NO_ENDS) {
            Due.refuses("11: end " + wrong, () -> x.line.count(wrong, 0));
        }
        for (int wrong : new int[] {-1, 5, Integer.MIN_VALUE, Integer.MAX_VALUE}) {
            Due.refuses("11: what " + wrong, () -> x.line.count(0, wrong));
        }
        Due.is("11: no frame", x.to(Timed.complete(2) - 1).line.count(0, 0), 0);
        Due.is("11: a frame", x.to(Timed.complete(2)).line.count(0, 0), 1);
        Due.is("11: three frames", x.to(Timed.complete(4)).line.count(1, 0), 3);
    }

    private static void countOfWrongFirstHalves() {
        Timed x = Timed.withOnes().breakSlot(1, 33);
        Due.is("11: the half behind is not complete", x.to(Timed.complete(47) - 1).line.count(1, 3), 0);
        Due.is("11: a first half wrong", x.to(Timed.complete(47)).line.count(1, 3), 1);
        Due.is("11: not at the other end", x.line.count(0, 3), 0);
        Due.is("11: frame 13 is not complete", x.to(Timed.complete(61) - 1).line.count(0, 4), 0);
        Due.is("11: a far fault", x.to(Timed.complete(61)).line.count(0, 4), 1);
        Due.is("9: M of frame 13", x.line.slot(0, 0), 0x5F);
        x.to(4000);
        Due.is("11: no other half wrong", x.line.count(1, 3), 1);
        Due.is("11: no other far fault", x.line.count(0, 4), 1);
        Due.is("11: none at this end", x.line.count(1, 4), 0);
    }

    private static void countOfWrongSecondHalves() {
        Timed x = Timed.withOnes().breakSlot(1, 41);
        Due.is("11: the half behind is not complete", x.to(Timed.complete(55) - 1).line.count(1, 3), 0);
        Due.is("11: a second half wrong", x.to(Timed.complete(55)).line.count(1, 3), 1);
        Due.is("11: not told in frame 13", x.to(Timed.complete(63) - 1).line.count(0, 4), 0);
        Due.is("11: told in frame 15", x.to(Timed.complete(63)).line.count(0, 4), 1);
        Due.is("9: M of frame 15", x.line.slot(0, 0), 0x5F);
        Due.is("11: told once", x.to(4000).line.count(0, 4), 1);
    }

    private static void countOfHalvesThatBeginNotKnown() {
        // the number is known with frame 27, when the half from frame 24 on has begun
        Timed x = Timed.withOnes().breakSlot(1, 29).to(2000);
        Due.is("11: it began not known", x.line.count(1, 3), 0);
    }

    private static void countOfHalvesThatEndNotKnown() {
        // the number is not known any more with frame 59, before the half 48 .. 55 is compared
        Timed x = Timed.withOnes().breakM(1, 37).breakM(1, 53).to(Timed.complete(59));
        Due.is("8: not known", x.line.frame(1), NONE);
        Due.is("11: the half of frame 37", x.line.count(1, 3), 1);
        Due.is("11: not the half of frame 53", x.to(4000).line.count(1, 3), 1);
    }

    private static void countOfWrongCheckBits() {
        // the check of the frames 32 .. 39 of ones is 1110: C of frame 46 is 0, and comes as 1
        Timed x = Timed.withOnes().comeAsOne(1, 46, 1);
        Due.is("9: C", x.to(Timed.complete(46)).line.slot(1, 0), 0x9B);
        Due.is("11: the half before it", x.to(Timed.complete(47)).line.count(1, 3), 1);
        Due.is("11: C is 0 in its own half", x.to(4000).line.count(1, 3), 1);
    }

    private static void wrongIsForgottenWithTheAlignment() {
        Timed x = Timed.withOnes().breakSlot(1, 33).to(Timed.complete(47));
        Due.is("11: a half wrong", x.line.count(1, 3), 1);
        x.breakWord(1, 52).breakWord(1, 54).breakWord(1, 56).to(32 * 56 + 14);
        Due.is("7: lost", x.line.aligned(1), false);
        Due.is("11: not told any more", x.to(4000).line.count(0, 4), 0);
    }

    private static void wrongIsForgottenWithTheNumber() {
        Timed x = Timed.withOnes().breakM(1, 37).breakM(1, 53).to(Timed.complete(59));
        Due.is("11: a half was wrong", x.line.count(1, 3), 1);
        Due.is("11: not told any more", x.to(4000).line.count(0, 4), 0);
    }
}
