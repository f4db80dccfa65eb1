import java.util.Random;

/** Random runs of calls, each answer compared with the one that PlainLine works out. */
public final class PlainLineTest {
    private static final int[] TELLING_BYTES = {0, 0, 0x1B, 0x9B, 0x5F, 0x7F, 0xDF, 255, 255, 0x36, 0x0D, 0x80, 1};
    private static final String[] RARITIES = {"code fault", "loss of alignment", "wrong half", "far fault",
        "number found", "number lost", "second bit 0 when tried", "no word when tried"};

    private final Random random;
    private final String name;
    private final FramedLine line = new FramedLine();
    private final PlainLine plain = new PlainLine();
    private int calls = 0;
    private int now = 0;

    private PlainLineTest(long seed) {
        random = new Random(seed);
        name = "run " + seed + " ";
    }

    public static void main(String[] args) {
        int runs = args.length > 0 ? Integer.parseInt(args[0]) : 300;
        long[] seen = new long[RARITIES.length];
        for (int seed = 1; seed <= runs; seed++) {
            PlainLineTest test = new PlainLineTest(seed);
            test.go(seed % 5);
            for (int end = 0; end < 2; end++) {
                int[] counts = test.plain.rarities(end);
                for (int i = 0; i < seen.length; i++) {
                    seen[i] += counts[i];
                }
            }
        }
        for (int i = 0; i < seen.length; i++) {
            System.out.println(RARITIES[i] + ": " + seen[i]);
            Due.is("a run reaches: " + RARITIES[i], seen[i] > 0, true);
        }
        Due.end();
    }

    private void go(int kind) {
        while (calls < 480) {
            switch (kind) {
                case 0 -> anything();
                case 1 -> hitFirstBits();
                case 2 -> hitWords();
                case 3 -> imitateWords();
                default -> imitateRoundWord();
            }
        }
    }

    /** All methods, now and then with arguments a little outside their bounds. */
    private void anything() {
        int end = anEnd();
        switch (random.nextInt(6)) {
            case 0 -> load(end, random.nextInt(5), random.nextInt(20) == 0 ? random.nextInt(600) - 200 : aByte());
            case 1 -> disturb(end, random.nextInt(30) == 0 ? random.nextInt(1100) - 50 : 1 + random.nextInt(40),
                    random.nextInt(30) == 0 ? 2 : random.nextInt(3) - 1);
            case 2 -> maybeSlip(end);
            case 3 -> pass(random.nextInt(40) - 1);
            default -> pass(random.nextInt(5) == 0 ? random.nextInt(650) : 1 + random.nextInt(100));
        }
        ask(1 + random.nextInt(3));
    }

    /** First bits of frames: M of odd ones, C of even ones. */
    private void hitFirstBits() {
        maybeLoad();
        int end = random.nextInt(2);
        int wait = 4 - now % 32 + 32 * (1 + random.nextInt(29));
        disturb(end, wait, random.nextInt(3) - 1);
        if (random.nextInt(3) == 0) {
            pass(1 + random.nextInt(400));
        }
        ask(2);
    }

    /** Words of even frames, in a row or not. */
    private void hitWords() {
        maybeLoad();
        int end = random.nextInt(2);
        int frames = random.nextInt(5);
        int first = 64 - now % 64 + 5 + random.nextInt(7);
        for (int i = 0; i < frames; i++) {
            disturb(end, first + 64 * i, random.nextInt(3) - 1);
        }
        if (random.nextInt(40) == 0) {
            maybeSlip(end);
        }
        pass(1 + random.nextInt(random.nextInt(4) == 0 ? 600 : 200));
        ask(6);
    }

    /** Slots that look like words, changed between frames, with slips that make the other end search. */
    private void imitateWords() {
        int end = random.nextInt(2);
        int slot = 1 + random.nextInt(3);
        boolean even = now / 32 % 2 == 0;
        load(end, slot, even ? 0x5F : 0x1B);
        if (random.nextInt(12) == 0) {
            maybeSlip(1 - end);
        }
        if (random.nextInt(30) == 0) {
            load(end, slot, aByte());
        }
        pass(random.nextInt(25) == 0 ? 1 + random.nextInt(64) : 32);
        ask(3);
    }

    /** First bits of odd frames that look like the word of rounds at another place than the true one. */
    private void imitateRoundWord() {
        if (now == 0) {
            load(0, 3, 0xFF);
            load(1, 3, 0xAB);
        }
        int end = random.nextInt(2);
        int shift = random.nextInt(8);
        int[] due = {0, 0, 1, 0, 1, 1, 1, 1};
        int frame = now / 32 + 1;
        for (int i = 0; i < 14; i++, frame++) {
            if (frame % 2 == 1) {
                int want = due[(frame / 2 + shift) % 8];
                if (want != due[frame / 2 % 8] && random.nextInt(8) != 0) {
                    disturb(end, 32 * frame + 4 - now, want == 0 ? 0 : random.nextInt(2) * 2 - 1);
                }
            }
        }
        for (int i = 0; i < 4; i++) {
            pass(random.nextInt(3) == 0 ? 32 : 128);
            ask(2);
        }
        if (random.nextInt(4) == 0) {
            pass(600);
            disturb(end, 1 + random.nextInt(300), random.nextInt(3) - 1);
            pass(600);
            ask(4);
        }
    }

    private int anEnd() {
        return random.nextInt(50) == 0 ? random.nextInt(7) - 3 : random.nextInt(2);
    }

    private int aByte() {
        return random.nextBoolean() ? TELLING_BYTES[random.nextInt(TELLING_BYTES.length)] : random.nextInt(256);
    }

    private void maybeLoad() {
        if (random.nextInt(4) == 0) {
            load(random.nextInt(2), 1 + random.nextInt(3), aByte());
        }
    }

    private void maybeSlip(int end) {
        if (random.nextInt(3) == 0) {
            same("slip(" + end + ")", Due.answer(() -> line.slip(end)), Due.answer(() -> plain.slip(end)));
        }
    }

    private void load(int end, int slot, int value) {
        same("load(" + end + ", " + slot + ", " + value + ")", Due.answer(() -> line.load(end, slot, value)),
                Due.answer(() -> plain.load(end, slot, value)));
    }

    private void disturb(int end, int n, int symbol) {
        same("disturb(" + end + ", " + n + ", " + symbol + ")", Due.answer(() -> line.disturb(end, n, symbol)),
                Due.answer(() -> plain.disturb(end, n, symbol)));
    }

    private void pass(int n) {
        same("pass(" + n + ")", Due.answer(() -> line.pass(n)), Due.answer(() -> plain.pass(n)));
        if (n >= 1 && n <= 600) {
            now += n;
        }
    }

    private void ask(int questions) {
        for (int i = 0; i < questions; i++) {
            int end = anEnd();
            int part = random.nextInt(50) == 0 ? random.nextInt(12) - 4 : random.nextInt(5);
            switch (random.nextInt(8)) {
                case 0 -> same("symbol(" + end + ")", Due.answer(() -> line.symbol(end)),
                        Due.answer(() -> plain.symbol(end)));
                case 1 -> same("aligned(" + end + ")", Due.answer(() -> line.aligned(end)),
                        Due.answer(() -> plain.aligned(end)));
                case 2, 3 -> same("frame(" + end + ")", Due.answer(() -> line.frame(end)),
                        Due.answer(() -> plain.frame(end)));
                case 4 -> same("slot(" + end + ", " + part + ")", Due.answer(() -> line.slot(end, part)),
                        Due.answer(() -> plain.slot(end, part)));
                case 5 -> same("alarm(" + end + ")", Due.answer(() -> line.alarm(end)),
                        Due.answer(() -> plain.alarm(end)));
                default -> same("count(" + end + ", " + part + ")", Due.answer(() -> line.count(end, part)),
                        Due.answer(() -> plain.count(end, part)));
            }
        }
    }

    private void same(String call, String got, String due) {
        calls++;
        Due.is(name + "at " + now + ": " + call, got, due);
    }
}
