/**
 * Two ends that send frames of slots to one another over lines of pulses.
 *
 * <p>A whole frame stands in one int, its first bit highest, so that no call but the constructor
 * makes an object.
 */
public final class FramedLine {
    public static final int NONE = -1;

    private static final int MOST_TIMES = 600;
    private static final int FARTHEST_TIME = 1000;
    private static final int MOST_DISTURBED = 8;
    private static final int HIGHEST_BYTE = 255;

    private static final int SLOTS = 4;
    private static final int FRAME_BITS = 32;
    private static final int SLOT_BITS = 8;
    private static final int LAST_OF_FIRST_HALF = 7;
    private static final int LAST_OF_ROUND = 15;
    private static final int LINE_DELAY = 3;
    private static final int FOUR_BITS = 15;

    private static final int ALL_BUT_FIRST_BIT = 0x7FFFFFFF;
    private static final int EVEN_WORD = 0x1B;
    private static final int EVEN_WORD_BITS = 7;
    private static final int EVEN_WORD_MASK = 0x7F;
    private static final int ODD_WORD = 0x5F;
    private static final int ALARM_BIT = 0x20;
    private static final int ROUND_WORD = 0x0B;
    private static final int ROUND_WORD_BITS = 6;
    private static final int ROUND_WORD_MASK = 0x3F;
    private static final int END_OF_ROUND_WORD = 11;
    private static final int TELLS_FIRST_HALF = 13;
    private static final int TELLS_SECOND_HALF = 15;
    private static final int CHECK_HIGHEST = 3;
    private static final int CHECK_CHANGE = 3;

    private final End zero;
    private final End one;
    private int passed;

    public FramedLine() {
        zero = new End();
        one = new End();
        passed = 0;
    }

    public int load(int end, int slot, int value) throws IllegalArgumentException {
        End at = endOf(end);
        require(slot >= 1 && slot < SLOTS && value >= 0 && value <= HIGHEST_BYTE);
        return at.sender.exchange(slot, value);
    }

    public int disturb(int end, int n, int symbol)
            throws IllegalArgumentException, IllegalStateException {
        End at = endOf(end);
        require(n >= 1 && n <= FARTHEST_TIME && symbol >= -1 && symbol <= 1);
        if (!at.arrivals.change(passed + n, symbol)) {
            throw new IllegalStateException("eight others are to be disturbed");
        }
        return at.arrivals.waiting;
    }

    public boolean slip(int end) throws IllegalArgumentException {
        return endOf(end).arrivals.doubleNext();
    }

    public int pass(int n) throws IllegalArgumentException {
        require(n >= 1 && n <= MOST_TIMES);
        for (int i = 0; i < n; i++) {
            passed++;
            int fromZero = zero.send();
            int fromOne = one.send();
            zero.receive(passed, fromOne);
            one.receive(passed, fromZero);
        }
        return passed;
    }

    public int symbol(int end) throws IllegalArgumentException {
        return endOf(end).decoder.latestSymbol;
    }

    public boolean aligned(int end) throws IllegalArgumentException {
        return endOf(end).receiver.isAligned();
    }

    public int frame(int end) throws IllegalArgumentException {
        return endOf(end).receiver.rounds.number;
    }

    public int slot(int end, int slot) throws IllegalArgumentException {
        End at = endOf(end);
        require(slot >= 0 && slot < SLOTS);
        return at.receiver.byteOf(slot);
    }

    public boolean alarm(int end) throws IllegalArgumentException {
        return endOf(end).receiver.alarmCame;
    }

    public int count(int end, int what) throws IllegalArgumentException {
        End at = endOf(end);
        switch (what) {
            case 0:
                return at.receiver.completeFrames;
            case 1:
                return at.decoder.faults;
            case 2:
                return at.receiver.losses;
            case 3:
                return at.receiver.rounds.wrongHalves;
            case 4:
                return at.receiver.rounds.farFaults;
            default:
                throw new IllegalArgumentException("what is not 0 .. 4");
        }
    }

    private End endOf(int end) {
        require(end == 0 || end == 1);
        return end == 0 ? zero : one;
    }

    private static void require(boolean allowed) {
        if (!allowed) {
            throw new IllegalArgumentException("an argument is outside its bounds");
        }
    }

    /** The check, carried on from what it was over the bits of one more frame. */
    private static int checkOver(int check, int frameBits) {
        int c = check;
        for (int place = FRAME_BITS - 1; place >= 0; place--) {
            int b = (frameBits >>> place & 1) ^ (c >> CHECK_HIGHEST);
            c = c << 1 & FOUR_BITS;
            if (b == 1) {
                c ^= CHECK_CHANGE;
            }
        }
        return c;
    }

    private static boolean endsHalf(int number) {
        return number == LAST_OF_FIRST_HALF || number == LAST_OF_ROUND;
    }

    /** What stands at one end: its sender, its receiver, and the line that comes to it. */
    private static final class End {
        private final Sender sender;
        private final Encoder encoder;
        private final Arrivals arrivals;
        private final Decoder decoder;
        private final Receiver receiver;

        End() {
            sender = new Sender();
            encoder = new Encoder();
            arrivals = new Arrivals();
            decoder = new Decoder();
            receiver = new Receiver();
        }

        int send() {
            if (sender.isBetweenFrames()) {
                sender.beginFrame(receiver);
            }
            return encoder.symbolBehind(sender.nextBit());
        }

        void receive(int time, int sent) {
            int come = arrivals.asItComes(time, sent);
            int comings = arrivals.comings();
            for (int i = 0; i < comings; i++) {
                int bit = decoder.bitBehind(come);
                if (bit != NONE) {
                    receiver.takeBit(bit);
                }
            }
        }
    }

    /** Makes the frames of an end. */
    private static final class Sender {
        private final int[] loaded;
        /** The number of the frame that begins next. */
        private int next;
        private int frameBits;
        private int bitsSent;
        private int check;
        private int checkOfHalfBefore;

        Sender() {
            loaded = new int[SLOTS];
            next = 0;
            frameBits = 0;
            bitsSent = FRAME_BITS;
            check = 0;
            checkOfHalfBefore = 0;
        }

        int exchange(int slot, int value) {
            int before = loaded[slot];
            loaded[slot] = value;
            return before;
        }

        boolean isBetweenFrames() {
            return bitsSent == FRAME_BITS;
        }

        void beginFrame(Receiver own) {
            boolean odd = (next & 1) == 1;
            int slotZero = odd ? oddSlotZero(own) : evenSlotZero();
            frameBits = slotZero << 24 | loaded[1] << 16 | loaded[2] << 8 | loaded[3];
            check = checkOver(check, odd ? frameBits : frameBits & ALL_BUT_FIRST_BIT);
            bitsSent = 0;
            if (endsHalf(next)) {
                checkOfHalfBefore = check;
                check = 0;
            }
            next = (next + 1) & LAST_OF_ROUND;
        }

        int nextBit() {
            bitsSent++;
            return frameBits >>> (FRAME_BITS - bitsSent) & 1;
        }

        private int evenSlotZero() {
            int evenInHalf = next >> 1 & 3;
            int c = checkOfHalfBefore >> (CHECK_HIGHEST - evenInHalf) & 1;
            return c << (SLOT_BITS - 1) | EVEN_WORD;
        }

        private int oddSlotZero(Receiver own) {
            int alarmBit = own.isAligned() ? 0 : ALARM_BIT;
            return firstBitOfOdd(own.rounds) << (SLOT_BITS - 1) | ODD_WORD | alarmBit;
        }

        private int firstBitOfOdd(Rounds own) {
            if (next <= END_OF_ROUND_WORD) {
                return ROUND_WORD >> (ROUND_WORD_BITS - 1 - (next >> 1)) & 1;
            }
            boolean wrong = next == TELLS_FIRST_HALF ? own.firstHalfWrong : own.secondHalfWrong;
            return wrong ? 0 : 1;
        }
    }

    /** Makes symbols of bits, three behind them: only the fourth bit 0 tells what the first is. */
    private static final class Encoder {
        private int latestPulse;
        private boolean oddPulses;
        private int zeros;
        private int threeBehind;
        private int twoBehind;
        private int oneBehind;

        Encoder() {
            // the first pulse is to be 1, other than this
            latestPulse = -1;
            oddPulses = false;
            zeros = 0;
            threeBehind = 0;
            twoBehind = 0;
            oneBehind = 0;
        }

        int symbolBehind(int bit) {
            int newest = bit == 1 ? pulseOfOne() : symbolOfZero();
            int due = threeBehind;
            threeBehind = twoBehind;
            twoBehind = oneBehind;
            oneBehind = newest;
            return due;
        }

        private int pulseOfOne() {
            zeros = 0;
            oddPulses = !oddPulses;
            latestPulse = -latestPulse;
            return latestPulse;
        }

        private int symbolOfZero() {
            zeros++;
            if (zeros <= LINE_DELAY) {
                return 0;
            }
            if (!oddPulses) {
                latestPulse = -latestPulse;
                threeBehind = latestPulse;
            }
            zeros = 0;
            oddPulses = false;
            return latestPulse;
        }
    }

    /** What is to happen to symbols on their way to an end. */
    private static final class Arrivals {
        private final int[] times;
        private final int[] symbols;
        private int waiting;
        private boolean slipping;

        Arrivals() {
            times = new int[MOST_DISTURBED];
            symbols = new int[MOST_DISTURBED];
            waiting = 0;
            slipping = false;
        }

        /** Answers false, and changes nothing, when there is no room for one more. */
        boolean change(int time, int symbol) {
            int at = placeOf(time);
            if (at >= MOST_DISTURBED) {
                return false;
            }
            if (at == waiting) {
                waiting++;
            }
            times[at] = time;
            symbols[at] = symbol;
            return true;
        }

        boolean doubleNext() {
            boolean first = !slipping;
            slipping = true;
            return first;
        }

        int asItComes(int time, int sent) {
            int at = placeOf(time);
            if (at >= waiting) {
                return sent;
            }
            int come = symbols[at];
            waiting--;
            times[at] = times[waiting];
            symbols[at] = symbols[waiting];
            return come;
        }

        int comings() {
            int comings = slipping ? 2 : 1;
            slipping = false;
            return comings;
        }

        /** Where this time stands, or would stand: behind all that wait. */
        private int placeOf(int time) {
            int at = 0;
            while (at < waiting && times[at] != time) {
                at++;
            }
            return at;
        }
    }

    /** Makes bits of symbols and counts the faults of the line code. */
    private static final class Decoder {
        private int latestSymbol;
        /** 0 when there was none. */
        private int latestPulse;
        private int latestV;
        private int zeros;
        /** The bits of the latest four symbols: a V can still change the oldest of them. */
        private int latestBits;
        private int symbolsAhead;
        private int faults;

        Decoder() {
            latestSymbol = 0;
            latestPulse = 0;
            latestV = 0;
            zeros = 0;
            latestBits = 0;
            symbolsAhead = 0;
            faults = 0;
        }

        /** The bit of the third symbol before this one, NONE for the first three. */
        int bitBehind(int symbol) {
            latestSymbol = symbol;
            if (symbol == 0) {
                takeZero();
            } else {
                takePulse(symbol);
            }
            if (symbolsAhead < LINE_DELAY) {
                symbolsAhead++;
                return NONE;
            }
            return latestBits >> LINE_DELAY & 1;
        }

        private void takeZero() {
            latestBits = latestBits << 1 & FOUR_BITS;
            zeros++;
            if (latestPulse != 0 && (zeros & 3) == 0) {
                faults++;
            }
        }

        private void takePulse(int pulse) {
            boolean violation = pulse == latestPulse;
            if (violation && zeros >= 2) {
                takeV(pulse);
            } else {
                latestBits = (latestBits << 1 | 1) & FOUR_BITS;
                if (violation) {
                    faults++;
                }
            }
            latestPulse = pulse;
            zeros = 0;
        }

        private void takeV(int pulse) {
            latestBits = 0;
            if (pulse == latestV) {
                faults++;
            }
            latestV = pulse;
        }
    }

    private enum State { SEARCHING, TRYING, ALIGNED }

    /** Finds where frames begin and takes them. */
    private static final class Receiver {
        private static final int SECOND_BIT_OF_NEXT = 26;
        private static final int WORD_BEHIND_NEXT = 64;
        private static final int MOST_WRONG_WORDS = 3;

        private final Rounds rounds;
        private State state;
        private int latestBits;
        /** Bits since the search began, behind the word that is tried, or of the frame. */
        private int bits;
        private boolean odd;
        private int wrongWords;
        private int latestFrame;
        private int completeFrames;
        private int losses;
        private boolean alarmCame;

        Receiver() {
            rounds = new Rounds();
            state = State.SEARCHING;
            latestBits = 0;
            bits = 0;
            odd = false;
            wrongWords = 0;
            latestFrame = 0;
            completeFrames = 0;
            losses = 0;
            alarmCame = false;
        }

        boolean isAligned() {
            return state == State.ALIGNED;
        }

        int byteOf(int slot) {
            if (completeFrames == 0) {
                return NONE;
            }
            return latestFrame >>> (FRAME_BITS - SLOT_BITS * (slot + 1)) & HIGHEST_BYTE;
        }

        void takeBit(int bit) {
            latestBits = latestBits << 1 | bit;
            bits++;
            if (state == State.SEARCHING) {
                search();
            } else if (state == State.TRYING) {
                tryWord(bit);
            } else if (bits == FRAME_BITS) {
                complete();
            } else if (bits == SLOT_BITS && !odd) {
                lookAtWord();
            }
        }

        private void search() {
            if (bits >= EVEN_WORD_BITS && wordStands()) {
                enter(State.TRYING);
            }
        }

        private void tryWord(int bit) {
            if (bits == SECOND_BIT_OF_NEXT && bit == 0) {
                enter(State.SEARCHING);
            } else if (bits == WORD_BEHIND_NEXT) {
                if (wordStands()) {
                    align();
                } else {
                    enter(State.SEARCHING);
                }
            }
        }

        private void align() {
            enter(State.ALIGNED);
            // the frame whose word was the second one is the first frame
            bits = SLOT_BITS;
            odd = false;
            wrongWords = 0;
        }

        private void lookAtWord() {
            wrongWords = wordStands() ? 0 : wrongWords + 1;
            if (wrongWords == MOST_WRONG_WORDS) {
                losses++;
                enter(State.SEARCHING);
                rounds.startAnew();
            }
        }

        private void complete() {
            latestFrame = latestBits;
            completeFrames++;
            if (odd) {
                alarmCame = (byteOf(0) & ALARM_BIT) != 0;
            }
            rounds.takeFrame(latestFrame, odd);
            odd = !odd;
            bits = 0;
        }

        private boolean wordStands() {
            return (latestBits & EVEN_WORD_MASK) == EVEN_WORD;
        }

        private void enter(State other) {
            state = other;
            bits = 0;
        }
    }

    /** Numbers the complete frames of an aligned receiver and checks their halves. */
    private static final class Rounds {
        private static final int MOST_WRONG_ROUNDS = 2;

        private int number;
        /** Odd frames since the receiver was aligned. */
        private int oddFrames;
        private int firstBitsOfOdd;
        private int wrongRounds;
        /** Whether the number was known from the beginning of this half, and of the one before. */
        private boolean halfBegunKnown;
        private boolean halfBeforeKnown;
        private int check;
        private int checkOfHalfBefore;
        private int checkCome;
        private boolean firstHalfWrong;
        private boolean secondHalfWrong;
        private int wrongHalves;
        private int farFaults;

        Rounds() {
            number = NONE;
            oddFrames = 0;
            firstBitsOfOdd = 0;
            wrongRounds = 0;
            halfBegunKnown = false;
            halfBeforeKnown = false;
            check = 0;
            checkOfHalfBefore = 0;
            checkCome = 0;
            firstHalfWrong = false;
            secondHalfWrong = false;
            wrongHalves = 0;
            farFaults = 0;
        }

        /** For a receiver that is not aligned any more. */
        void startAnew() {
            forgetNumber();
            oddFrames = 0;
        }

        void takeFrame(int frameBits, boolean odd) {
            int firstBit = frameBits >>> (FRAME_BITS - 1);
            if (odd) {
                oddFrames++;
                firstBitsOfOdd = (firstBitsOfOdd << 1 | firstBit) & ROUND_WORD_MASK;
            } else {
                checkCome = (checkCome << 1 | firstBit) & FOUR_BITS;
            }
            if (number == NONE) {
                findNumber(odd);
                return;
            }
            number = (number + 1) & LAST_OF_ROUND;
            check = checkOver(check, odd ? frameBits : frameBits & ALL_BUT_FIRST_BIT);
            if (number == END_OF_ROUND_WORD) {
                judgeRoundWord();
            } else if (firstBit == 0 && (number == TELLS_FIRST_HALF || number == TELLS_SECOND_HALF)) {
                farFaults++;
            }
            if (endsHalf(number)) {
                endHalf();
            }
        }

        private void findNumber(boolean odd) {
            if (odd && oddFrames >= ROUND_WORD_BITS && firstBitsOfOdd == ROUND_WORD) {
                number = END_OF_ROUND_WORD;
                wrongRounds = 0;
            }
        }

        private void judgeRoundWord() {
            wrongRounds = firstBitsOfOdd == ROUND_WORD ? 0 : wrongRounds + 1;
            if (wrongRounds == MOST_WRONG_ROUNDS) {
                forgetNumber();
            }
        }

        private void endHalf() {
            if (halfBeforeKnown) {
                judgeHalfBefore();
            }
            halfBeforeKnown = halfBegunKnown;
            checkOfHalfBefore = check;
            halfBegunKnown = true;
            check = 0;
        }

        private void judgeHalfBefore() {
            boolean wrong = checkCome != checkOfHalfBefore;
            if (wrong) {
                wrongHalves++;
            }
            if (number == LAST_OF_ROUND) {
                firstHalfWrong = wrong;
            } else {
                secondHalfWrong = wrong;
            }
        }

        private void forgetNumber() {
            number = NONE;
            halfBegunKnown = false;
            halfBeforeKnown = false;
            firstHalfWrong = false;
            secondHalfWrong = false;
        }
    }
}
