/** Promises 1 to 6, by answers worked out by hand. */
public final class CallsTest {
    private static final int NONE = FramedLine.NONE;
    private static final int[] NO_ENDS = {-1, 2, Integer.MIN_VALUE, Integer.MAX_VALUE};

    private CallsTest() {
    }

    public static void main(String[] args) {
        Due.each(
                CallsTest::newObject, CallsTest::load, CallsTest::loadWhenAFrameBegins, CallsTest::disturb,
                CallsTest::disturbHasRoomForEight, CallsTest::slip, CallsTest::slipOfADisturbedSymbol,
                CallsTest::pass, CallsTest::symbol, CallsTest::symbolsBehindOddPulses);
        Due.end();
    }

    // promise 1
    private static void newObject() {
        FramedLine x = new FramedLine();
        for (int end = 0; end < 2; end++) {
            Due.is("1: symbol", x.symbol(end), 0);
            Due.is("1: aligned", x.aligned(end), false);
            Due.is("1: frame", x.frame(end), NONE);
            Due.is("1: alarm", x.alarm(end), false);
            for (int slot = 0; slot < 4; slot++) {
                Due.is("1: slot", x.slot(end, slot), NONE);
            }
            for (int what = 0; what < 5; what++) {
                Due.is("1: count", x.count(end, what), 0);
            }
            for (int slot = 1; slot < 4; slot++) {
                Due.is("1: load", x.load(end, slot, 9), 0);
            }
            Due.is("1: slip", x.slip(end), true);
            Due.is("1: disturb", x.disturb(end, 1, 0), 1);
        }
        Due.is("1: pass", x.pass(1), 1);
    }

    // promise 2
    private static void load() {
        FramedLine x = new FramedLine();
        Due.is("2: first", x.load(0, 1, 255), 0);
        Due.is("2: the other end", x.load(1, 1, 7), 0);
        Due.is("2: another slot", x.load(0, 3, 1), 0);
        for (int wrong : NO_ENDS) {
            Due.refuses("2: end " + wrong, () -> x.load(wrong, 1, 1));
        }
        for (int wrong : new int[] {-1, 0, 4, Integer.MIN_VALUE, Integer.MAX_VALUE}) {
            Due.refuses("2: slot " + wrong, () -> x.load(0, wrong, 1));
        }
        for (int wrong : new int[] {-1, 256, Integer.MIN_VALUE, Integer.MAX_VALUE}) {
            Due.refuses("2: value " + wrong, () -> x.load(0, 1, wrong));
        }
        Due.is("2: again", x.load(0, 1, 0), 255);
        Due.is("2: and again", x.load(0, 1, 5), 0);
        Due.is("2: the other slot still", x.load(0, 3, 0), 1);
        Due.is("2: the other end still", x.load(1, 1, 7), 7);
        Due.is("2: the slot between", x.load(0, 2, 0), 0);
    }

    private static void loadWhenAFrameBegins() {
        Timed x = new Timed().to(64);
        x.line.load(0, 1, 0xA5);
        x.to(65).line.load(0, 2, 0x5A);
        x.to(Timed.complete(2));
        Due.is("2: loaded before frame 2", x.line.slot(1, 1), 0xA5);
        Due.is("2: loaded when frame 2 had begun", x.line.slot(1, 2), 0);
        Due.is("2: not loaded at the other end", x.line.slot(0, 1), 0);
        x.to(Timed.complete(3));
        Due.is("2: in frame 3", x.line.slot(1, 2), 0x5A);
    }

    // promise 3
    private static void disturb() {
        Timed x = new Timed();
        for (int wrong : NO_ENDS) {
            Due.refuses("3: end " + wrong, () -> x.line.disturb(wrong, 1, 1));
        }
        for (int wrong : new int[] {0, -1, 1001, Integer.MIN_VALUE, Integer.MAX_VALUE}) {
            Due.refuses("3: n " + wrong, () -> x.line.disturb(0, wrong, 1));
        }
        for (int wrong : new int[] {-2, 2, Integer.MIN_VALUE, Integer.MAX_VALUE}) {
            Due.refuses("3: symbol " + wrong, () -> x.line.disturb(0, 1, wrong));
        }
        Due.is("3: next", x.line.disturb(0, 1, -1), 1);
        Due.is("3: in place of it", x.line.disturb(0, 1, 1), 1);
        Due.is("3: farthest", x.line.disturb(0, 1000, 1), 2);
        Due.is("3: the other end", x.line.disturb(1, 2, -1), 1);
        Due.is("3: end 0", x.symbols(0, 1), "+");
        Due.is("3: not end 1", x.line.symbol(1), 0);
        Due.is("3: end 1", x.symbols(1, 1), "-");
        Due.is("3: not end 0", x.line.symbol(0), 0);
        Due.is("3: one is over", x.line.disturb(0, 998, -1), 1);
        x.to(999);
        Due.is("3: the farthest is still to be", x.line.disturb(0, 5, 0), 2);
        Due.is("3: it comes", x.symbols(0, 1), "-");
        Due.is("3: it is over", x.line.disturb(0, 4, 0), 1);
    }

    private static void disturbHasRoomForEight() {
        Timed x = new Timed();
        for (int n = 1; n <= 8; n++) {
            Due.is("3: the n-th", x.line.disturb(1, n, n % 2 == 0 ? 1 : -1), n);
        }
        Due.is("3: the ninth", Due.answer(() -> x.line.disturb(1, 9, 1)), "throws.IllegalStateException");
        Due.refuses("3: the ninth, and wrong", () -> x.line.disturb(1, 9, 2));
        Due.is("3: one of the eight", x.line.disturb(1, 3, 0), 8);
        Due.is("3: at the other end", x.line.disturb(0, 9, 1), 1);
        Due.is("3: as disturbed", x.symbols(1, 8), "-+0+-+-+");
        Due.is("3: what was refused is not kept", x.symbols(1, 1), "0");
        Due.is("3: none is left", x.line.disturb(1, 9, 1), 1);
    }

    // promise 4
    private static void slip() {
        Timed x = new Timed();
        for (int wrong : NO_ENDS) {
            Due.refuses("4: end " + wrong, () -> x.line.slip(wrong));
        }
        x.to(Timed.ALIGNED);
        Due.is("4: said", x.line.slip(0), true);
        Due.is("4: said before", x.line.slip(0), false);
        x.to(Timed.ALIGNED + 1);
        Due.is("4: said anew", x.line.slip(0), true);
        Due.is("4: a bit too few", x.to(Timed.complete(2) - 3).line.count(0, 0), 0);
        Due.is("4: two bits more", x.to(Timed.complete(2) - 2).line.count(0, 0), 1);
        Due.is("4: no bit more", x.to(Timed.complete(2) - 1).line.count(1, 0), 0);
        Due.is("4: the other end did not slip", x.to(Timed.complete(2)).line.count(1, 0), 1);
    }

    private static void slipOfADisturbedSymbol() {
        FramedLine x = new FramedLine();
        x.disturb(1, 1, 1);
        x.slip(1);
        x.pass(1);
        Due.is("4: it comes twice", x.count(1, 1), 1);
        Due.is("4: as disturbed", x.symbol(1), 1);
        Due.is("4: not at the other end", x.count(0, 1), 0);
    }

    // promise 5
    private static void pass() {
        FramedLine x = new FramedLine();
        Due.is("5: least", x.pass(1), 1);
        Due.is("5: most", x.pass(600), 601);
        for (int wrong : new int[] {0, -1, 601, Integer.MIN_VALUE, Integer.MAX_VALUE}) {
            Due.refuses("5: n " + wrong, () -> x.pass(wrong));
        }
        Due.is("5: none passed since", x.pass(2), 603);
        for (int i = 1; i <= 490; i++) {
            Due.is("5: many", x.pass(600), 603 + 600 * i);
        }
        Due.is("5: frames complete", x.count(0, 0), (603 + 600 * 490 - 6) / 32 - 2);
        Due.is("5: no code fault", x.count(0, 1) + x.count(1, 1), 0);
        Due.is("5: no half wrong", x.count(0, 3) + x.count(1, 3), 0);
        Due.is("5: no far fault", x.count(0, 4) + x.count(1, 4), 0);
    }

    // promise 6
    private static void symbol() {
        Timed x = new Timed();
        for (int wrong : NO_ENDS) {
            Due.refuses("6: end " + wrong, () -> x.line.symbol(wrong));
        }
        Due.is("6: the first three", x.symbols(1, 3), "000");
        Due.is("6: frame 0", x.symbols(1, 32), "000+-0+-" + "+00+-00-" + "+00+-00-" + "+00+-00-");
        Due.is("6: frame 1", x.symbols(1, 32), "0+-+-+-+" + "000+-00-" + "+00+-00-" + "+00+-00-");
    }

    private static void symbolsBehindOddPulses() {
        Timed x = new Timed().loadAll(1, 0x84, 0x20, 0x07).to(3);
        Due.is("6: groups across slots", x.symbols(0, 32), "000+-0+-" + "+000+-00" + "0-+000+-" + "00-00+-+");
        Timed y = new Timed().loadAll(1, 0x84, 0x20, 0x07).to(3);
        Due.is("6: the other end", y.symbols(1, 12), "000+-0+-+00+");
    }
}
