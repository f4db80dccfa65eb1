/**
 * An object with its time. Bit b of a sender (from 1) is on the line in time b + 3, and the other
 * receiver makes it in time b + 6. So frame f (from 0, not numbered anew in each round) begins in
 * time 32 f + 1, its first symbol comes in time 32 f + 4, it is complete in time 32 f + 38, and a
 * receiver to which nothing happens is aligned in time 78.
 */
final class Timed {
    static final int ALIGNED = 78;

    final FramedLine line = new FramedLine();
    private int now = 0;

    Timed to(int time) {
        if (time < now) {
            throw new IllegalStateException("time " + time + " is over");
        }
        while (now < time) {
            int times = Math.min(600, time - now);
            line.pass(times);
            now += times;
        }
        return this;
    }

    static int complete(int frame) {
        return 32 * frame + 38;
    }

    Timed loadAll(int end, int first, int second, int third) {
        line.load(end, 1, first);
        line.load(end, 2, second);
        line.load(end, 3, third);
        return this;
    }

    /** The symbols that come to an end in the next times. */
    String symbols(int end, int times) {
        StringBuilder text = new StringBuilder();
        for (int i = 0; i < times; i++) {
            to(now + 1);
            text.append("-0+".charAt(line.symbol(end) + 1));
        }
        return text.toString();
    }

    Timed disturbBit(int end, int frame, int bit, int symbol) {
        line.disturb(end, 32 * frame + bit + 3 - now, symbol);
        return this;
    }

    /** The first 1 of the word of an even frame does not come. */
    Timed breakWord(int end, int frame) {
        return disturbBit(end, frame, 4, 0);
    }

    /** M of a frame where it is 1 does not come. */
    Timed breakM(int end, int frame) {
        return disturbBit(end, frame, 1, 0);
    }

    /** One 1 among ones in slot 1 does not come, and no other bit changes. */
    Timed breakSlot(int end, int frame) {
        return disturbBit(end, frame, 12, 0);
    }

    /** M, C or another bit of a frame comes as a 1, behind a bit that comes as a pulse. */
    Timed comeAsOne(int end, int frame, int bit) {
        to(32 * frame + bit + 2);
        // right behind a pulse, one like it is no V, and no pulse behind it becomes a violation
        line.disturb(end, 1, line.symbol(end));
        return this;
    }

    /** These symbols come to an end in the next times, whatever is sent. */
    Timed come(int end, String symbols) {
        for (int i = 0; i < symbols.length(); i++) {
            line.disturb(end, 1, "-0+".indexOf(symbols.charAt(i)) - 1);
            to(now + 1);
        }
        return this;
    }

    /** An object at time 920: the frames 25 and on of both ends have ones alone in their slots 1 .. 3. */
    static Timed withOnes() {
        return new Timed().to(800).loadAll(0, 255, 255, 255).loadAll(1, 255, 255, 255).to(920);
    }
}
