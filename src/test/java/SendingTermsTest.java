/** The sentences of "Terms" on the sender, the line code and a time: each boundary case has a test of its own. */
public final class SendingTermsTest {
    private final int from;
    private final int to;

    private SendingTermsTest(int from) {
        this.from = from;
        to = 1 - from;
    }

    public static void main(String[] args) {
        for (int end = 0; end < 2; end++) {
            SendingTermsTest test = new SendingTermsTest(end);
            test.sender();
            test.checkBits();
            test.lineCode();
            test.bitsAndFaults();
            test.time();
        }
        Due.end();
    }

    private void sender() {
        Due.each(
                this::numberedAndZeroAgain, this::theFirstOneIsZero, this::atFirstZero, this::highestBitFirst,
                this::asTheyAreWhenTheFrameBegins, this::oneWhenNothingWasChecked, this::zeroIfAFirstHalfWasWrong,
                this::zeroIfASecondHalfWasWrong, this::oneIfTheLatestWasRight, this::alarmWhenNotAligned,
                this::alarmWhenTheFrameBegins);
    }

    private void numberedAndZeroAgain() {
        Due.sentence("the sender", "numbered 0 .. 15 and 0 again");
        Timed x = new Timed();
        StringBuilder sent = new StringBuilder();
        for (int frame = 3; frame < 51; frame += 2) {
            sent.append(slotZero(x, frame) >> 7);
        }
        Due.is("M of three rounds, but for frame 1", sent.toString(), "0101111" + "00101111" + "00101111" + "0");
    }

    private void theFirstOneIsZero() {
        Due.sentence("the sender", "the first one is 0");
        Timed x = new Timed().loadAll(from, 255, 255, 255).to(3);
        Due.is("slot 0 of an even frame", x.symbols(to, 8), "000+-0+-");
        Due.is("the bytes loaded", x.symbols(to, 24), "+-+-+-+-+-+-+-+-+-+-+-+-");
        Due.is("slot 0 of an odd frame", x.symbols(to, 8), "0+-+-+-+");
        Due.is("frame 3, M is the second", slotZero(x, 3) >> 7, 0);
        Due.is("frame 5, M is the third", slotZero(x, 5) >> 7, 1);
        Due.is("frame 7, M is the fourth", slotZero(x, 7) >> 7, 0);
    }

    private void atFirstZero() {
        Due.sentence("the sender", "the bytes that were loaded for them (at first 0)");
        Timed x = new Timed();
        x.line.load(from, 2, 255);
        x.to(Timed.complete(2));
        Due.is("slot 1", x.line.slot(to, 1), 0);
        Due.is("slot 2, loaded", x.line.slot(to, 2), 255);
        Due.is("slot 3", x.line.slot(to, 3), 0);
        Due.is("slot 2 of the other sender", x.line.slot(from, 2), 0);
    }

    private void highestBitFirst() {
        Due.sentence("the sender", "the highest bit first");
        Due.is("the highest", onTheLine(0x80, 0xFF), "+000+000-+-+-+-+");
        Due.is("the lowest", onTheLine(0x01, 0xFF), "+00+000-+-+-+-+-");
        Due.is("the higher four", onTheLine(0xF0, 0xFF), "+-+-+00+-+-+-+-+");
    }

    private void asTheyAreWhenTheFrameBegins() {
        Due.sentence("the sender", "as they are when the frame begins");
        for (int slot = 1; slot <= 3; slot++) {
            Timed x = new Timed().to(32 * 4);
            x.line.load(from, slot, 0x11);
            x.to(32 * 4 + 1).line.load(from, slot, 0x22);
            Due.is("the frame before", x.to(Timed.complete(3)).line.slot(to, slot), 0);
            Due.is("loaded right before it began", x.to(Timed.complete(4)).line.slot(to, slot), 0x11);
            Due.is("loaded right behind that", x.to(Timed.complete(5)).line.slot(to, slot), 0x22);
        }
    }

    private void oneWhenNothingWasChecked() {
        Due.sentence("the sender", "else 1");
        Timed x = new Timed();
        for (int frame : new int[] {13, 15, 29, 31}) {
            Due.is("frame " + frame, slotZero(x, frame), 0xDF);
        }
    }

    private void zeroIfAFirstHalfWasWrong() {
        Due.sentence("the sender", "in 13 it is 0 if the receiver of the same end found the latest first half that it checked wrong");
        Timed x = Timed.withOnes().breakSlot(from, 33);
        Due.is("frame 45, not yet found", slotZero(x, 45), 0xDF);
        Due.is("frame 61", slotZero(x, 61), 0x5F);
        Due.is("not from the other end", x.line.slot(from, 0), 0xDF);
        Due.is("frame 63, for second halves", slotZero(x, 63), 0xDF);
    }

    private void zeroIfASecondHalfWasWrong() {
        Due.sentence("the sender", "in 15 likewise for second halves");
        Timed x = Timed.withOnes().breakSlot(from, 41);
        Due.is("frame 47, not yet found", slotZero(x, 47), 0xDF);
        Due.is("frame 61, for first halves", slotZero(x, 61), 0xDF);
        Due.is("frame 63", slotZero(x, 63), 0x5F);
    }

    private void oneIfTheLatestWasRight() {
        Due.sentence("the sender", "the latest first half that it checked");
        Timed x = Timed.withOnes().breakSlot(from, 33).breakSlot(from, 41);
        Due.is("frame 61", slotZero(x, 61), 0x5F);
        Due.is("frame 63", slotZero(x, 63), 0x5F);
        Due.is("frame 77", slotZero(x, 77), 0xDF);
        Due.is("frame 79", slotZero(x, 79), 0xDF);
    }

    private void alarmWhenNotAligned() {
        Due.sentence("the sender", "A is 1 when that receiver is not ALIGNED, else 0");
        Timed x = new Timed().to(100).breakWord(from, 4).breakWord(from, 6).breakWord(from, 8);
        Due.is("frame 7, aligned", slotZero(x, 7), 0x5F);
        Due.is("frame 9, lost", slotZero(x, 9), 0xFF);
        Due.is("frame 11, searching", slotZero(x, 11), 0xFF);
        Due.is("frame 13, aligned again", slotZero(x, 13), 0xDF);
    }

    private void alarmWhenTheFrameBegins() {
        Due.sentence("the sender", "all this when the frame begins");
        // the bits 20 .. 26 are taken for words, the 26th bit of frame 2 comes right before frame 3 begins
        Timed x = alignedWithin(0xE6, 0xC0, 0x10).to(95);
        Due.is("time 95", x.line.aligned(from), false);
        Due.is("time 96", x.to(96).line.aligned(from), true);
        Due.is("frame 3", slotZero(x, 3), 0x5F);
    }

    /** A receiver that takes bits of slots 2 and 3 of the frames 0 and 2 for words. */
    private Timed alignedWithin(int second, int third, int secondOfOdd) {
        Timed x = new Timed().loadAll(to, 0, second, third).breakWord(from, 0);
        x.to(32).loadAll(to, 0, secondOfOdd, 0);
        return x.to(64).loadAll(to, 0, second, third);
    }

    private void checkBits() {
        Due.each(
                this::zeroInTheFirstHalfOfAll, this::zeroInPlaceOfC);
    }

    private void zeroInTheFirstHalfOfAll() {
        Due.sentence("the sender", "0 in the first half of all");
        Timed x = new Timed().to(3);
        Due.is("frame 0", x.symbols(to, 4), "000+");
        for (int frame = 2; frame <= 6; frame += 2) {
            Due.is("frame " + frame, slotZero(x, frame), 0x1B);
        }
        // the check of the first half is 0111, that of the second 1001
        Due.is("frame 8", slotZero(x, 8), 0x1B);
        Due.is("frame 10", slotZero(x, 10), 0x9B);
        Due.is("frame 16, the first half of the next round", slotZero(x, 16), 0x9B);
        Due.is("frame 18", slotZero(x, 18), 0x1B);
    }

    private void zeroInPlaceOfC() {
        Due.sentence("the sender", "but 0 in place of C");
        // with bytes 0, the second halves are the same in each round, and the first halves but for A in frame 1;
        // they stay so only if C, another in each half, does not come into the checks
        Timed x = new Timed();
        String[] checks = {"0111", "1001", "0110", "1001", "0110"};
        for (int half = 1; half <= 5; half++) {
            Due.is("C of half " + half, checksOf(x, 8 * half), checks[half - 1]);
        }
    }

    /** C as it comes in the half that begins with this frame. */
    private String checksOf(Timed x, int first) {
        StringBuilder bits = new StringBuilder();
        for (int frame = first; frame < first + 8; frame += 2) {
            bits.append(slotZero(x, frame) >> 7);
        }
        return bits.toString();
    }

    private void lineCode() {
        Due.each(
                this::firstPulse, this::fourInARow, this::behindOddPulses, this::behindEvenPulses,
                this::notAmongFourBefore, this::sinceTheLatestV, this::firstThreeOnTheLine);
    }

    private void firstPulse() {
        Due.sentence("the line code", "a pulse other than the latest one (the first one is 1)");
        Timed x = new Timed().loadAll(from, 255, 255, 255).to(3);
        Due.is("the first", x.symbols(to, 4), "000+");
        Due.is("those behind it", x.symbols(to, 12), "-0+-+-+-+-+-");
    }

    private void fourInARow() {
        Due.sentence("the line code", "Four bits 0 in a row");
        Due.is("one", onTheLine(0x7F, 0xFF), "0+-+-+-+-+-+-+-+");
        Due.is("three", onTheLine(0x1F, 0xFF), "000+-+-+-+-+-+-+");
        Due.is("three and three", onTheLine(0x11, 0xFF), "000+000-+-+-+-+-");
        Due.is("four", onTheLine(0x0F, 0xFF), "+00+-+-+-+-+-+-+");
        Due.is("four of two slots", onTheLine(0xFC, 0x3F), "+-+-+-+00+-+-+-+");
    }

    private void behindOddPulses() {
        Due.sentence("the line code", "0 0 0 V if the number of pulses since the latest V (or since the beginning) is odd, V being as the latest pulse");
        Due.is("five since the beginning", onTheLine(0x87, 0xFF), "+000+-+-+-+-+-+-");
        Due.is("seven since the beginning", onTheLine(0xE1, 0xFF), "+-+000+-+-+-+-+-");
    }

    private void behindEvenPulses() {
        Due.sentence("the line code", "otherwise P 0 0 V, P being a pulse other than the latest one, and V as P");
        Due.is("four since the beginning", onTheLine(0x0F, 0xFF), "+00+-+-+-+-+-+-+");
        Due.is("six since the beginning", onTheLine(0xC3, 0xFF), "+-+00+-+-+-+-+-+");
    }

    private void notAmongFourBefore() {
        Due.sentence("the line code", "the first of them not among four that were taken together before");
        Due.is("five", onTheLine(0x07, 0xFF), "+00+0-+-+-+-+-+-");
        Due.is("seven", onTheLine(0x01, 0xFF), "+00+000-+-+-+-+-");
        Due.is("eight", onTheLine(0x00, 0xFF), "+00+-00-+-+-+-+-");
        Due.is("eleven", onTheLine(0x00, 0x1F), "+00+-00-000+-+-+");
        Due.is("twelve", onTheLine(0x00, 0x0F), "+00+-00-+00+-+-+");
    }

    private void sinceTheLatestV() {
        Due.sentence("the line code", "the number of pulses since the latest V");
        Due.is("none", onTheLine(0x00, 0xFF), "+00+-00-+-+-+-+-");
        Due.is("none, five before", onTheLine(0x80, 0x7F), "+000+-00-+-+-+-+");
        Due.is("one, five before", onTheLine(0x84, 0x3F), "+000+-000-+-+-+-");
        Due.is("one", onTheLine(0x08, 0x7F), "+00+-000-+-+-+-+");
        Due.is("two", onTheLine(0x0C, 0x3F), "+00+-+-00-+-+-+-");
        Due.is("three", onTheLine(0x0E, 0x1F), "+00+-+-000-+-+-+");
    }

    private void firstThreeOnTheLine() {
        Due.sentence("the line code", "the first three on the line are 0, then come those of the first bit, of the second");
        Timed x = new Timed();
        Due.is("the first three", x.symbols(to, 3), "000");
        Due.is("those of the first eight bits", x.symbols(to, 8), "000+-0+-");
    }

    private void bitsAndFaults() {
        Due.each(
                this::noneForTheFirstThree, this::oneForEach, this::aVMakesZeros, this::anyOtherPulseMakesAOne,
                this::violationThatIsNoV, this::vAsTheVBefore, this::fourthAndEighthZero);
    }

    private void noneForTheFirstThree() {
        Due.sentence("the line code", "for the first three symbols that come it makes none");
        // six symbols that would be a word if there had been one bit 0 more; the bit behind that would be
        // looked at is 1, so that the search would go on too late for the word of frame 2
        Timed x = new Timed().loadAll(from, 0, 0, 0x08).come(to, "0+-0+-");
        Due.is("not yet", x.to(Timed.ALIGNED + 63).line.aligned(to), false);
        Due.is("with the words of frames 2 and 4", x.to(Timed.ALIGNED + 64).line.aligned(to), true);
    }

    private void oneForEach() {
        Due.sentence("the line code", "then one for each");
        // the bits of the first seven symbols are a word; the trial fails only in frame 2
        Timed x = new Timed().loadAll(from, 0, 0, 0x04).come(to, "00+-0+-");
        Due.is("not yet", x.to(Timed.ALIGNED + 127).line.aligned(to), false);
        Due.is("with the words of frames 4 and 6", x.to(Timed.ALIGNED + 128).line.aligned(to), true);
        Timed y = new Timed();
        Due.is("three behind", y.to(Timed.ALIGNED - 1).line.aligned(to), false);
        Due.is("no more", y.to(Timed.ALIGNED).line.aligned(to), true);
    }

    private void aVMakesZeros() {
        Due.sentence("the line code", "It is a V if the two symbols before it are 0; then it and the three before make bits 0");
        Due.is("two symbols 0", slotOf("s00s...."), 0b00001111);
        Due.is("three", slotOf("s000s..."), 0b10000111);
        Due.is("five", slotOf("s00000s."), 0b10000001);
        Due.is("two in a row", slotOf("s00s00s."), 0b00000001);
    }

    private void anyOtherPulseMakesAOne() {
        Due.sentence("the line code", "Any other pulse makes a bit 1, a symbol 0 a bit 0");
        Due.is("a violation right behind", slotOf("ss......"), 0b11111111);
        Due.is("a violation behind one 0", slotOf("s0s....."), 0b10111111);
        Due.is("another pulse behind two", slotOf("s00o...."), 0b10011111);
        Due.is("another pulse behind three", slotOf("s000o..."), 0b10001111);
        Due.is("seven symbols 0", slotOf("s0000000"), 0b10000000);
    }

    private void violationThatIsNoV() {
        Due.sentence("the line code", "CODE FAULTS are counted: a violation that is no V");
        Due.is("right behind", faultsOf("++"), 1);
        Due.is("three in a row", faultsOf("+++"), 2);
        Due.is("behind one 0", faultsOf("-0-"), 1);
        Due.is("a V", faultsOf("+00+"), 0);
        Due.is("a V behind three 0", faultsOf("+000+"), 0);
        Due.is("no violation", faultsOf("+-+0-00+"), 0);
        Due.is("the first pulse is none", faultsOf("00-"), 0);
    }

    private void vAsTheVBefore() {
        Due.sentence("the line code", "a V that is as the V before");
        Due.is("the first V, 1", faultsOf("+00+"), 0);
        Due.is("the first V, -1", faultsOf("-00-"), 0);
        Due.is("as the one before", faultsOf("+00+00+"), 1);
        Due.is("as the one before, with others between", faultsOf("-00-+-00-"), 1);
        Due.is("other than the one before", faultsOf("+00+-00-"), 0);
        Due.is("as the last but one", faultsOf("+00+-00-+00+"), 0);
    }

    private void fourthAndEighthZero() {
        Due.sentence("the line code", "a symbol 0 that is the fourth, eighth, .. in a row behind a pulse");
        int[] faults = {0, 0, 0, 0, 1, 1, 1, 1, 2, 2, 2, 2, 3};
        for (int zeros = 0; zeros < 13; zeros++) {
            Due.is(zeros + " behind a pulse", faultsOf("+" + "0".repeat(zeros)), faults[zeros]);
        }
        Due.is("behind none", faultsOf("00000000"), 0);
        Due.is("four, and a V", faultsOf("-0000-"), 1);
        Due.is("three, another pulse, and one", faultsOf("+000-0"), 0);
    }

    /** The faults of an end to which only these symbols came. */
    private int faultsOf(String symbols) {
        return new Timed().come(to, symbols).line.count(to, 1);
    }

    /** Slot 1 of frame 2, a pulse s and 0, s or another instead of seven pulses by turns; the point leaves one as it is. */
    private int slotOf(String symbols) {
        Timed x = new Timed().loadAll(from, 255, 255, 255).to(32 * 2 + 9 + 3);
        int s = x.line.symbol(to);
        for (int i = 1; i < 8; i++) {
            int at = "o0s".indexOf(symbols.charAt(i));
            if (at >= 0) {
                x.line.disturb(to, i, (at - 1) * s);
            }
        }
        return x.to(Timed.complete(2)).line.slot(to, 1);
    }

    private void time() {
        Due.each(
                this::bothSendThenBothTake, this::comesTwice);
    }

    private void bothSendThenBothTake() {
        Due.sentence("a time", "both senders send a symbol each, then both receivers take what comes from the other one");
        // the bits 21 .. 27 are taken for words: this end is aligned in the very time in which frame 3 begins
        Timed x = alignedWithin(0xF3, 0x60, 0x08).to(96);
        Due.is("time 96", x.line.aligned(from), false);
        Due.is("time 97", x.to(97).line.aligned(from), true);
        Due.is("frame 3", slotZero(x, 3), 0x7F);
        Due.is("frame 5", slotZero(x, 5), 0xDF);
    }

    private void comesTwice() {
        Due.sentence("a time", "it comes twice, one right behind the other");
        Timed x = new Timed().loadAll(from, 0xF0, 0x0F, 0xAA).to(32 * 2 + 12 + 2);
        x.line.slip(to);
        x.to(Timed.complete(2) - 1);
        Due.is("a pulse, slot 1", x.line.slot(to, 1), 0xF8);
        Due.is("slot 2", x.line.slot(to, 2), 0x07);
        Due.is("slot 3", x.line.slot(to, 3), 0xD5);
        Timed y = new Timed().loadAll(from, 0x55, 0x55, 0x55).to(32 * 2 + 13 + 2);
        y.line.slip(to);
        y.to(Timed.complete(2) - 1);
        Due.is("a 0, slot 1", y.line.slot(to, 1), 0x52);
        Due.is("slot 2", y.line.slot(to, 2), 0xAA);
    }

    /** The symbols of slots 1 and 2 of frame 0; in slot 0 were four pulses, the latest one -1. */
    private String onTheLine(int first, int second) {
        return new Timed().loadAll(from, first, second, 255).to(11).symbols(to, 16);
    }

    /** Slot 0 as this end sends it in a frame. */
    private int slotZero(Timed x, int frame) {
        return x.to(Timed.complete(frame)).line.slot(to, 0);
    }
}
