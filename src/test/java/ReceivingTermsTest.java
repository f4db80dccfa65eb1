/** The sentences of "Terms" on aligning, rounds and checking: each boundary case has a test of its own. */
public final class ReceivingTermsTest {
    private static final int NONE = FramedLine.NONE;
    private static final int CODE_FAULTS = 1;
    private static final int LOSSES = 2;
    private static final int WRONG_HALVES = 3;
    private static final int FAR_FAULTS = 4;

    private final int end;
    private final int other;

    private ReceivingTermsTest(int end) {
        this.end = end;
        other = 1 - end;
    }

    public static void main(String[] args) {
        for (int end = 0; end < 2; end++) {
            ReceivingTermsTest test = new ReceivingTermsTest(end);
            test.search();
            test.alignment();
            test.numbers();
            test.checks();
            test.forgetting();
        }
        Due.end();
    }

    private void search() {
        Due.each(
                this::searchesAtFirst, this::sinceTheSearchBegan, this::sinceTheSecondBitWasZero,
                this::behindTheSecondBitThatWasZero, this::rightBehindTheSecondBit,
                this::sinceTheWordWasWrong, this::rightBehindTheWord,
                this::sinceAlignmentWasLost, this::rightBehindTheLoss,
                this::secondBitOfTheNextFrame, this::firstAndThirdBitOfTheNextFrame,
                this::wordOfTheFrameBehindThat, this::firstBitOfTheFrameBehindThat);
    }

    private void searchesAtFirst() {
        Due.sentence("aligning", "A receiver SEARCHES at first");
        Timed x = new Timed();
        Due.is("time 0", x.line.aligned(end), false);
        Due.is("a word came", x.to(14).line.aligned(end), false);
        alignedIn(Timed.ALIGNED, x);
    }

    private void sinceTheSearchBegan() {
        Due.sentence("aligning", "When the latest seven bits made since it began to search are 0 0 1 1 0 1 1");
        // six bits that would be a word if bits 0 were thought before them; the trial would fail only in frame 2
        alignedIn(Timed.ALIGNED + 64, new Timed().loadAll(other, 0, 0, 0x08).come(end, "0+-0+-"));
        alignedIn(Timed.ALIGNED + 128, new Timed().loadAll(other, 0, 0, 0x04).come(end, "00+-0+-"));
    }

    private void sinceTheSecondBitWasZero() {
        Due.sentence("aligning", "it searches anew, beginning behind this bit");
        // frame 1 comes as 0 0 1 1 0 1 1 1, the second bit is where the trial fails; with the first two bits
        // the search would find a word there, and C of frame 2 would let it be tried until frame 3
        Timed x = new Timed().disturbBit(end, 1, 2, 0).disturbBit(end, 1, 3, 1).disturbBit(end, 1, 5, 0);
        alignedIn(Timed.ALIGNED + 64, x.comeAsOne(end, 2, 1));
    }

    private void behindTheSecondBitThatWasZero() {
        Due.sentence("aligning", "it searches anew, beginning behind this bit");
        // frame 1 comes as 0 0 0 1 1 0 1 1: with its second bit, where the trial fails, there would be a word;
        // frame 2 as 0 1 0 1 1 0 1 1 and frame 3 as 0 0 0 1 1 0 1 1, so that it would be aligned with frame 3
        Timed x = new Timed().disturbBit(end, 1, 2, 0).disturbBit(end, 1, 3, 0).disturbBit(end, 1, 6, 0);
        x.disturbBit(end, 2, 2, 1).disturbBit(end, 3, 2, 0).disturbBit(end, 3, 4, 1).disturbBit(end, 3, 6, 0);
        Due.is("frame 3", x.to(eighthBit(3)).line.aligned(end), false);
        // the word in frame 3 is tried until the second bit of frame 4, so that the next one is that of frame 6
        alignedIn(eighthBit(8), x);
    }

    private void sinceTheWordWasWrong() {
        Due.sentence("aligning", "it searches anew, beginning behind this bit");
        // the last bit of the wrong word in frame 2 and slot 1 would be a word, tried until frame 4
        Timed x = new Timed().loadAll(other, 0b01101100, 0, 0).disturbBit(end, 2, 7, 0).disturbBit(end, 2, 8, 0);
        alignedIn(eighthBit(6), x);
    }

    private void sinceAlignmentWasLost() {
        Due.sentence("aligning", "it searches anew, beginning behind that bit");
        // the last bit of the third wrong word and slot 1 would be a word, tried until frame 10
        Timed x = new Timed().loadAll(other, 0b01101100, 0, 0).to(100).breakWord(end, 4).breakWord(end, 6);
        x.disturbBit(end, 8, 7, 0).disturbBit(end, 8, 8, 0);
        Due.is("lost", x.to(eighthBit(8)).line.aligned(end), false);
        alignedIn(eighthBit(12), x);
    }

    private void rightBehindTheSecondBit() {
        Due.sentence("aligning", "it searches anew, beginning behind this bit");
        // the bits 3 .. 9 of frame 1, right behind where the trial fails, come as a word, tried until frame 2:
        // too late for the word of frame 2
        Timed x = new Timed().loadAll(other, 0x80, 0, 0).disturbBit(end, 1, 2, 0).disturbBit(end, 1, 3, 0);
        x.disturbBit(end, 1, 4, 0).disturbBit(end, 1, 5, 1).disturbBit(end, 1, 7, 0);
        alignedIn(eighthBit(6), x);
    }

    private void rightBehindTheWord() {
        Due.sentence("aligning", "it searches anew, beginning behind this bit");
        // slot 1 of frame 2 begins with a word, tried until frame 4
        Timed x = new Timed().loadAll(other, 0b00110110, 0, 0).disturbBit(end, 2, 7, 0).disturbBit(end, 2, 8, 0);
        alignedIn(eighthBit(8), x.to(32 * 3).loadAll(other, 0x80, 0, 0));
    }

    private void rightBehindTheLoss() {
        Due.sentence("aligning", "it searches anew, beginning behind that bit");
        // slot 1 of frame 8 begins with a word, tried until frame 10
        Timed x = new Timed().loadAll(other, 0b00110110, 0, 0).to(100).breakWord(end, 4).breakWord(end, 6);
        x.disturbBit(end, 8, 7, 0).disturbBit(end, 8, 8, 0).to(32 * 9).loadAll(other, 0x80, 0, 0);
        alignedIn(eighthBit(14), x);
    }

    private void secondBitOfTheNextFrame() {
        Due.sentence("aligning", "The second bit of the next frame must be 1 .. the 26th");
        alignedIn(Timed.ALIGNED + 64, new Timed().disturbBit(end, 1, 2, 0));
    }

    private void firstAndThirdBitOfTheNextFrame() {
        Due.sentence("aligning", "the 26th");
        alignedIn(Timed.ALIGNED, new Timed().comeAsOne(end, 1, 1));
        alignedIn(Timed.ALIGNED, new Timed().disturbBit(end, 1, 3, 0));
    }

    private void wordOfTheFrameBehindThat() {
        Due.sentence("aligning", "the bits 2 to 8 of the frame behind that 0 0 1 1 0 1 1 .. and the 64th bit behind");
        for (int bit : new int[] {4, 5, 7, 8}) {
            alignedIn(eighthBit(6), new Timed().disturbBit(end, 2, bit, 0));
        }
        for (int bit : new int[] {2, 3, 6}) {
            alignedIn(eighthBit(6), new Timed().disturbBit(end, 2, bit, 1));
        }
    }

    private void firstBitOfTheFrameBehindThat() {
        Due.sentence("aligning", "the bits 2 to 8 of the frame behind that");
        alignedIn(Timed.ALIGNED, new Timed().comeAsOne(end, 2, 1));
    }

    private void alignedIn(int time, Timed x) {
        Due.is("right before time " + time, x.to(time - 1).line.aligned(end), false);
        Due.is("in time " + time, x.to(time).line.aligned(end), true);
    }

    private void alignment() {
        Due.each(
                this::thatFrameIsItsFirst, this::threeInARow, this::twoInARow, this::threeInARowSinceItWasAligned,
                this::firstBitsAreNotLookedAt, this::completeWithThe32nd, this::alarmOfOddFrames);
    }

    private void thatFrameIsItsFirst() {
        Due.sentence("aligning", "it is ALIGNED, and that frame is its first");
        Timed x = new Timed().to(Timed.complete(2) - 1);
        Due.is("not complete", x.line.count(end, 0), 0);
        Due.is("the first", x.to(Timed.complete(2)).line.count(end, 0), 1);
        Due.is("it is even", x.line.slot(end, 0), 0x1B);
    }

    private void threeInARow() {
        Due.sentence("aligning", "when they were wrong in three even frames in a row, alignment is lost (counted)");
        for (int bit : new int[] {4, 5, 7, 8}) {
            Timed x = new Timed().to(100);
            x.disturbBit(end, 4, bit, 0).disturbBit(end, 6, bit, 0).disturbBit(end, 8, bit, 0);
            Due.is("two", x.to(eighthBit(8) - 1).line.aligned(end) + " " + x.line.count(end, LOSSES), "true 0");
            Due.is("three", x.to(eighthBit(8)).line.aligned(end) + " " + x.line.count(end, LOSSES), "false 1");
            Due.is("the other end", x.line.aligned(other) + " " + x.line.count(other, LOSSES), "true 0");
        }
    }

    private void twoInARow() {
        Due.sentence("aligning", "in three even frames in a row");
        Timed x = new Timed().to(100);
        x.breakWord(end, 4).breakWord(end, 6).breakWord(end, 10).breakWord(end, 12).breakWord(end, 16);
        for (int frame = 4; frame <= 20; frame++) {
            Due.is("frame " + frame, x.to(eighthBit(frame)).line.aligned(end), true);
        }
        Due.is("none", x.line.count(end, LOSSES), 0);
    }

    private void threeInARowSinceItWasAligned() {
        Due.sentence("aligning", "From then on");
        Timed x = new Timed().to(100).breakWord(end, 4).breakWord(end, 6).breakWord(end, 8).to(eighthBit(12));
        Due.is("aligned again", x.line.aligned(end), true);
        x.breakWord(end, 14).breakWord(end, 16).breakWord(end, 18);
        Due.is("two", x.to(eighthBit(18) - 1).line.aligned(end), true);
        Due.is("three", x.to(eighthBit(18)).line.aligned(end), false);
        Due.is("losses", x.line.count(end, LOSSES), 2);
    }

    private void firstBitsAreNotLookedAt() {
        Due.sentence("aligning", "its bits 2 to 8 are looked at");
        Timed x = new Timed();
        for (int frame = 4; frame <= 8; frame += 2) {
            int came = x.comeAsOne(end, frame, 1).to(Timed.complete(frame)).line.slot(end, 0);
            Due.is("C of frame " + frame, came, 0x9B);
        }
        Due.is("still aligned", x.line.aligned(end), true);
    }

    private void completeWithThe32nd() {
        Due.sentence("aligning", "A frame is COMPLETE with its 32nd bit. With each complete frame its slots are those received");
        Timed x = new Timed();
        for (int frame = 2; frame < 6; frame++) {
            x.to(32 * frame).loadAll(other, frame, 10 * frame, 50 * frame);
        }
        for (int frame = 5; frame < 8; frame++) {
            int before = Math.min(5, frame - 1);
            x.to(Timed.complete(frame) - 1);
            Due.is("31 bits", x.line.count(end, 0) + " " + x.line.slot(end, 3), frame - 2 + " " + 50 * before);
            x.to(Timed.complete(frame));
            Due.is("32 bits", x.line.count(end, 0) + " " + x.line.slot(end, 3), frame - 1 + " " + 250);
        }
    }

    private void alarmOfOddFrames() {
        Due.sentence("aligning", "when it is odd, its third bit is the ALARM received");
        Timed x = new Timed().loadAll(other, 255, 255, 255).comeAsOne(end, 4, 1).comeAsOne(end, 4, 2).comeAsOne(end, 4, 3);
        Due.is("third bit of an even frame", x.to(Timed.complete(4)).line.slot(end, 0), 0xFB);
        Due.is("no alarm", x.line.alarm(end), false);
        x.comeAsOne(end, 7, 3);
        Due.is("not complete", x.to(Timed.complete(7) - 1).line.alarm(end), false);
        Due.is("third bit of an odd frame", x.to(Timed.complete(7)).line.alarm(end), true);
        Due.is("an even frame behind it", x.to(Timed.complete(8)).line.alarm(end), true);
        Due.is("the next odd one", x.to(Timed.complete(9)).line.alarm(end), false);
    }

    private void numbers() {
        Due.each(
                this::sixOddOnes, this::sixOddOnesSinceItWasAligned, this::countedOn, this::asLongAsNotKnown,
                this::notSoInOneRound, this::notSoInTwoRounds, this::twoRoundsInARowSinceKnown,
                this::countedFromWhenItWasAligned, this::farFaults, this::farFaultsOfKnownFramesAlone);
    }

    private void sixOddOnes() {
        Due.sentence("rounds", "the first bits of the latest six odd ones are 0 0 1 0 1 1");
        Timed x = new Timed();
        Due.is("frame 11, five odd ones", frame(x, 11), NONE);
        Due.is("frame 13, another six", frame(x, 13), NONE);
        Due.is("frame 26", frame(x, 26), NONE);
        Due.is("frame 27", frame(x, 27), 11);
    }

    private void sixOddOnesSinceItWasAligned() {
        Due.sentence("rounds", "In complete frames since it was aligned");
        // 17 .. 25 have 0 0 1 0 1; then alignment is lost, and the first odd frame since it is aligned again has 1
        Timed x = new Timed().to(600).breakWord(end, 22).breakWord(end, 24).breakWord(end, 26);
        Due.is("lost", x.to(eighthBit(26)).line.aligned(end), false);
        Due.is("aligned again", x.to(eighthBit(30)).line.aligned(end), true);
        Due.is("frame 31", frame(x, 31), NONE);
        Due.is("frame 42", frame(x, 42), NONE);
        Due.is("frame 43", frame(x, 43), 11);
    }

    private void countedOn() {
        Due.sentence("rounds", "this one is known to be frame 11, and the frames behind it are counted on from that");
        Timed x = new Timed();
        for (int number = 27; number < 51; number++) {
            Due.is("frame " + number, frame(x, number), number % 16);
        }
    }

    private void asLongAsNotKnown() {
        Due.sentence("rounds", "as long as the number of frames is not KNOWN");
        // the frames 37 .. 47 come with 0 0 1 0 1 1, but are known to be 5 .. 15
        Timed x = new Timed().to(1000).breakM(end, 37).breakM(end, 43);
        Due.is("frame 47", frame(x, 47), 15);
        Due.is("frame 48", frame(x, 48), 0);
        Due.is("frame 59", frame(x, 59), 11);
    }

    private void notSoInOneRound() {
        Due.sentence("rounds", "in two rounds in a row");
        Timed x = new Timed().to(1000).breakM(end, 37).breakM(end, 41);
        Due.is("once", frame(x, 43), 11);
        x.to(2000).breakM(end, 69);
        Due.is("once again, a right round between", frame(x, 75), 11);
        Due.is("and on", frame(x, 107), 11);
        Timed y = new Timed().to(920).breakM(end, 29).breakM(end, 31).breakM(end, 45).breakM(end, 47);
        Due.is("13 and 15 do not matter", frame(y, 59), 11);
    }

    private void notSoInTwoRounds() {
        Due.sentence("rounds", "When they are not so in frame 11 in two rounds in a row, the number is not known any more");
        for (int wrong : new int[] {5, 9, 11}) {
            Timed x = new Timed().to(1000).breakM(end, 32 + wrong).breakM(end, 48 + wrong);
            Due.is("one round", frame(x, 43), 11);
            Due.is("right before", x.to(Timed.complete(59) - 1).line.frame(end), 10);
            Due.is("two rounds", frame(x, 59), NONE);
            Due.is("still aligned", x.line.aligned(end), true);
        }
        for (int wrong : new int[] {1, 3, 7}) {
            Timed x = Timed.withOnes().comeAsOne(end, 32 + wrong, 1).comeAsOne(end, 48 + wrong, 1);
            Due.is("one round and more", x.to(Timed.complete(59) - 1).line.frame(end), 10);
            Due.is("two rounds, 1 for 0", frame(x, 59), NONE);
        }
    }

    private void twoRoundsInARowSinceKnown() {
        Due.sentence("rounds", "in two rounds in a row");
        Timed x = new Timed().to(1000).breakM(end, 37).breakM(end, 53);
        Due.is("not known", frame(x, 59), NONE);
        Due.is("known again", frame(x, 75), 11);
        x.breakM(end, 85).breakM(end, 101);
        Due.is("one round", frame(x, 91), 11);
        Due.is("two rounds", frame(x, 107), NONE);
    }

    private void countedFromWhenItWasAligned() {
        Due.sentence("rounds", "beginning with the next frame, six odd ones are looked at again, counted from when it was aligned");
        // the frames 53 .. 63 come with 0 0 1 0 1 1, four of them before the number was not known any more
        Timed x = new Timed().to(1000).breakM(end, 37).breakM(end, 53).breakM(end, 59);
        Due.is("not known", frame(x, 59), NONE);
        Due.is("not yet six that are so", frame(x, 61), NONE);
        Due.is("known with the second odd one since", frame(x, 63), 11);
        Due.is("counted on from that", frame(x, 68), 0);
    }

    private void farFaults() {
        Due.sentence("rounds", "A first bit 0 in the frames 13 and 15 is a FAR FAULT (counted)");
        Timed x = new Timed().to(920).breakM(end, 29).breakM(end, 31);
        // in all odd frames of the next round
        x.breakM(end, 37).breakM(end, 41).breakM(end, 43).breakM(end, 45);
        Due.is("frame 13, not complete", x.to(Timed.complete(29) - 1).line.count(end, FAR_FAULTS), 0);
        Due.is("frame 13", x.to(Timed.complete(29)).line.count(end, FAR_FAULTS), 1);
        Due.is("frame 14", x.to(Timed.complete(31) - 1).line.count(end, FAR_FAULTS), 1);
        Due.is("frame 15", x.to(Timed.complete(31)).line.count(end, FAR_FAULTS), 2);
        Due.is("the frames 0 .. 12", x.to(Timed.complete(44)).line.count(end, FAR_FAULTS), 2);
        Due.is("frame 13 again", x.to(Timed.complete(45)).line.count(end, FAR_FAULTS), 3);
        Due.is("the other end", x.line.count(other, FAR_FAULTS), 0);
    }

    private void farFaultsOfKnownFramesAlone() {
        Due.sentence("rounds", "the frames 13 and 15");
        Timed x = new Timed().to(100).breakM(end, 13).breakM(end, 15);
        Due.is("not known to be so", x.to(2000).line.count(end, FAR_FAULTS), 0);
    }

    private void checks() {
        Due.each(
                this::beginsWhileKnown, this::endsWhileKnown, this::whenThatIsComplete, this::knownAllTheTime,
                this::alignedAllTheTime, this::comparedWithTheHalfBehind, this::zeroInPlaceOfFirstBits,
                this::eachOfTheHalf);
    }

    private void beginsWhileKnown() {
        Due.sentence("checking", "for each half that begins .. while the number is known");
        Timed x = Timed.withOnes().breakSlot(end, 29).breakSlot(end, 31);
        Due.is("it was known in the half", x.to(3000).line.count(end, WRONG_HALVES), 0);
        Timed y = Timed.withOnes().breakSlot(end, 32);
        Due.is("it was known right before", y.to(3000).line.count(end, WRONG_HALVES), 1);
    }

    private void endsWhileKnown() {
        Due.sentence("checking", "for each half that .. ends while the number is known");
        // 32 .. 39 and 48 .. 55 are wrong; the number is not known from frame 59 on, and again with frame 75
        Timed x = Timed.withOnes().breakM(end, 37).breakM(end, 53).breakSlot(end, 57);
        Due.is("32 .. 39", x.to(Timed.complete(59)).line.count(end, WRONG_HALVES), 1);
        x.breakSlot(end, 77);
        Due.is("no other", x.to(Timed.complete(87)).line.count(end, WRONG_HALVES), 1);
        x.breakSlot(end, 89);
        Due.is("88 .. 95", x.to(Timed.complete(103)).line.count(end, WRONG_HALVES), 2);
    }

    private void whenThatIsComplete() {
        Due.sentence("checking", "compared with the C of the half behind it, when that is complete");
        Timed x = Timed.withOnes().breakSlot(end, 39).breakSlot(end, 40);
        Due.is("right before", x.to(Timed.complete(47) - 1).line.count(end, WRONG_HALVES), 0);
        Due.is("a first half", x.to(Timed.complete(47)).line.count(end, WRONG_HALVES), 1);
        Due.is("right before again", x.to(Timed.complete(55) - 1).line.count(end, WRONG_HALVES), 1);
        Due.is("a second half", x.to(Timed.complete(55)).line.count(end, WRONG_HALVES), 2);
        Due.is("no more", x.to(3000).line.count(end, WRONG_HALVES), 2);
    }

    private void knownAllTheTime() {
        Due.sentence("checking", "and the number was known all the time");
        // 48 .. 55 is wrong; the number is not known from frame 59 on, and with frame 63 it is thought to be 11
        Timed x = Timed.withOnes().breakM(end, 37).breakM(end, 53).breakM(end, 59);
        Due.is("thought to be 15", frame(x, 67), 15);
        Due.is("32 .. 39 alone", x.line.count(end, WRONG_HALVES), 1);
    }

    private void alignedAllTheTime() {
        Due.sentence("checking", "and the number was known all the time");
        Timed x = Timed.withOnes().breakSlot(end, 33).breakWord(end, 40).breakWord(end, 42).breakWord(end, 44);
        Due.is("lost", x.to(eighthBit(44)).line.aligned(end), false);
        Due.is("known again", frame(x, 59), 11);
        Due.is("none", x.to(4000).line.count(end, WRONG_HALVES), 0);
    }

    private void comparedWithTheHalfBehind() {
        Due.sentence("checking", "if they differ, the half before was found wrong (counted)");
        // the check of 32 .. 39 is 1110: C of frame 46 comes wrong
        Timed x = Timed.withOnes().comeAsOne(end, 46, 1).to(Timed.complete(47));
        Due.is("the half before", x.line.count(end, WRONG_HALVES), 1);
        x.to(Timed.complete(61));
        Due.is("it was a first half", x.line.slot(other, 0), 0x5F);
        Due.is("the half itself was right", x.to(Timed.complete(63)).line.slot(other, 0), 0xDF);
    }

    private void zeroInPlaceOfFirstBits() {
        Due.sentence("checking", "0 in place of first bits of even frames");
        Timed x = Timed.withOnes().comeAsOne(end, 46, 1);
        Due.is("C of frame 46", x.to(Timed.complete(46)).line.slot(end, 0), 0x9B);
        Due.is("its half is not wrong", x.to(3000).line.count(end, WRONG_HALVES), 1);
        Timed y = Timed.withOnes().breakM(end, 41);
        Due.is("M of frame 41 counts", y.to(3000).line.count(end, WRONG_HALVES), 1);
    }

    private void eachOfTheHalf() {
        Due.sentence("checking", "for each half");
        Timed x = Timed.withOnes();
        Due.is("right ones", x.to(2600).line.count(end, WRONG_HALVES), 0);
        for (int half = 11; half < 20; half++) {
            // one wrong bit, in another frame of each half
            x.breakSlot(end, 8 * half + half % 8).to(Timed.complete(8 * half + 7));
            Due.is("those before half " + half, x.line.count(end, WRONG_HALVES), half - 11);
        }
        Due.is("a violation for each wrong bit", x.line.count(end, CODE_FAULTS), 9);
    }

    private void forgetting() {
        Due.each(
                this::firstHalfAndTheNumber, this::secondHalfAndTheNumber,
                this::firstHalfAndTheAlignment, this::secondHalfAndTheAlignment);
    }

    private void firstHalfAndTheNumber() {
        Due.sentence("checking", "What was found wrong is forgotten when the number is not known .. any more");
        Timed x = Timed.withOnes().breakM(end, 37).breakM(end, 53);
        Due.is("found", x.to(Timed.complete(55)).line.count(end, WRONG_HALVES), 1);
        tellsNothing(x);
    }

    private void secondHalfAndTheNumber() {
        Due.sentence("checking", "What was found wrong is forgotten when the number is not known .. any more");
        Timed x = Timed.withOnes().breakM(end, 37).breakM(end, 53).breakSlot(end, 41);
        Due.is("found", x.to(Timed.complete(55)).line.count(end, WRONG_HALVES), 2);
        tellsNothing(x);
    }

    private void firstHalfAndTheAlignment() {
        Due.sentence("checking", "What was found wrong is forgotten when .. the receiver is not aligned, any more");
        Timed x = Timed.withOnes().breakSlot(end, 33).to(Timed.complete(47));
        Due.is("found", x.line.count(end, WRONG_HALVES), 1);
        tellsNothing(x.breakWord(end, 52).breakWord(end, 54).breakWord(end, 56));
    }

    private void secondHalfAndTheAlignment() {
        Due.sentence("checking", "What was found wrong is forgotten when .. the receiver is not aligned, any more");
        Timed x = Timed.withOnes().breakSlot(end, 41).to(Timed.complete(55));
        Due.is("found", x.line.count(end, WRONG_HALVES), 1);
        tellsNothing(x.breakWord(end, 56).breakWord(end, 58).breakWord(end, 60));
    }

    /** In no frame 13 or 15 the other end is told of a wrong half. */
    private void tellsNothing(Timed x) {
        Due.is("13", x.to(Timed.complete(61)).line.slot(other, 0) >> 7, 1);
        Due.is("15", x.to(Timed.complete(63)).line.slot(other, 0) >> 7, 1);
        Due.is("later", x.to(4000).line.count(other, FAR_FAULTS), 0);
    }

    private int frame(Timed x, int frame) {
        return x.to(Timed.complete(frame)).line.frame(end);
    }

    /** When the eighth bit of a frame comes. */
    private static int eighthBit(int frame) {
        return 32 * frame + 14;
    }
}
