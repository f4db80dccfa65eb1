/**
 * An object with its time. Bit b of a sender (from 1) is on the line in time b + 3, and the other
 * receiver makes it in time b + 6. So frame f (from 0, not numbered anew in each round) begins in
 * time 32 f + 1, its first symbol comes in time 32 f + 4, it is complete in time 32 f + 38, and a
 * receiver to which nothing happens is aligned in time 78.
 */
final class Timed {
    static final int ALIGNED = 78;

    final FramedLine line = new FramedLine();
    private int now = 0;

    Timed to(int time) {
        if (time < now) {
            throw new IllegalStateException("time " + time + " is over");
        }
        while (now < time) {
            now = line.pass(Math.min(600, time - now));
        }
        return this;
    }

    static int complete(int frame) {
        return 32 * frame + 38;
    }

    Timed loadAll(int end, int first, int second, int third) {
        line.load(end, 1, first);
        line.load(end, 2, second);
        line.load(end, 3, third);
        return this;
    }

    /** The symbols that come to an end in the next times. */
    String symbols(int end, int times) {
        StringBuilder text = new StringBuilder();
        for (int i = 0; i < times; i++) {
            to(now + 1);
            text.append("-0+".charAt(line.symbol(end) + 1));
        }
        return text.toString();
    }

    Timed disturbBit(int end, int frame, int bit, int symbol) {
        line.disturb(end, 32 * frame + bit + 3 - now, symbol);
        return this;
    }

    /** The first 1 of the word of an even frame does not come. */
    Timed breakWord(int end, int frame) {
        return disturbBit(end, frame, 4, 0);
    }

    /** M of a frame where it is 1 does not come. */
    Timed breakM(int end, int frame) {
        return disturbBit(end, frame, 1, 0);
    }

    /** One 1 among ones in slot 1 does not come, and no other bit changes. */
    Timed breakSlot(int end, int frame) {
        return disturbBit(end, frame, 12, 0);
    }
}
