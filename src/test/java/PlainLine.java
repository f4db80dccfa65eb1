import java.util.ArrayList;
import java.util.Arrays;
import java.util.List;
import java.util.TreeMap;

/**
 * The document told a second time, the slow way: it keeps all that was ever sent and taken, and
 * works every answer out from that whole history. FramedLine is compared with it.
 */
final class PlainLine {
    private static final int[] WORD = {0, 0, 1, 1, 0, 1, 1};
    private static final int[] ROUND_WORD = {0, 0, 1, 0, 1, 1};

    /** One frame as it came, with what was known when it was complete. */
    private static final class Frame {
        final int[] bits;
        final boolean odd;
        int number = -1;

        Frame(int[] bits, boolean odd) {
            this.bits = bits;
            this.odd = odd;
        }
    }

    /** All that an end can tell from the symbols it took. */
    private static final class Findings {
        final List<List<Frame>> alignments = new ArrayList<>();
        boolean aligned = false;
        int codeFaults = 0;
        int losses = 0;
        int wrongHalves = 0;
        int farFaults = 0;
        int numbersLost = 0;
        int numbersFound = 0;
        int failedAt26 = 0;
        int failedAt64 = 0;
        boolean firstHalfWrong = false;
        boolean secondHalfWrong = false;
    }

    private final int[][] loaded = new int[2][4];
    private final List<List<Integer>> sent = List.of(new ArrayList<>(), new ArrayList<>());
    private final List<List<Integer>> taken = List.of(new ArrayList<>(), new ArrayList<>());
    private final List<TreeMap<Integer, Integer>> disturbed = List.of(new TreeMap<>(), new TreeMap<>());
    private final int[][] symbolsOfFrame = new int[2][32];
    private final boolean[] slipping = new boolean[2];
    private final Findings[] kept = new Findings[2];
    private final int[] keptFor = {-1, -1};
    private int time = 0;

    int load(int end, int slot, int value) {
        allow(isEnd(end) && slot >= 1 && slot <= 3 && value >= 0 && value <= 255);
        int before = loaded[end][slot];
        loaded[end][slot] = value;
        return before;
    }

    int disturb(int end, int n, int symbol) {
        allow(isEnd(end) && n >= 1 && n <= 1000 && symbol >= -1 && symbol <= 1);
        TreeMap<Integer, Integer> toBe = disturbed.get(end);
        if (!toBe.containsKey(time + n) && toBe.size() == 8) {
            throw new IllegalStateException();
        }
        toBe.put(time + n, symbol);
        return toBe.size();
    }

    boolean slip(int end) {
        allow(isEnd(end));
        boolean before = slipping[end];
        slipping[end] = true;
        return !before;
    }

    int pass(int n) {
        allow(n >= 1 && n <= 600);
        for (int i = 0; i < n; i++) {
            if (time % 32 == 0) {
                beginFrames();
            }
            time++;
            for (int end = 0; end < 2; end++) {
                takeAt(end, symbolsOfFrame[1 - end][(time - 1) % 32]);
            }
        }
        return time;
    }

    int symbol(int end) {
        allow(isEnd(end));
        List<Integer> all = taken.get(end);
        return all.isEmpty() ? 0 : all.get(all.size() - 1);
    }

    boolean aligned(int end) {
        allow(isEnd(end));
        return found(end).aligned;
    }

    int frame(int end) {
        allow(isEnd(end));
        Findings found = found(end);
        if (!found.aligned) {
            return -1;
        }
        List<Frame> frames = found.alignments.get(found.alignments.size() - 1);
        return frames.isEmpty() ? -1 : frames.get(frames.size() - 1).number;
    }

    int slot(int end, int slot) {
        allow(isEnd(end) && slot >= 0 && slot <= 3);
        int answer = -1;
        for (List<Frame> frames : found(end).alignments) {
            for (Frame frame : frames) {
                answer = 0;
                for (int i = 8 * slot; i < 8 * slot + 8; i++) {
                    answer = 2 * answer + frame.bits[i];
                }
            }
        }
        return answer;
    }

    boolean alarm(int end) {
        allow(isEnd(end));
        boolean answer = false;
        for (List<Frame> frames : found(end).alignments) {
            for (Frame frame : frames) {
                answer = frame.odd ? frame.bits[2] == 1 : answer;
            }
        }
        return answer;
    }

    int count(int end, int what) {
        allow(isEnd(end) && what >= 0 && what <= 4);
        Findings found = found(end);
        int complete = 0;
        for (List<Frame> frames : found.alignments) {
            complete += frames.size();
        }
        int[] counts = {complete, found.codeFaults, found.losses, found.wrongHalves, found.farFaults};
        return counts[what];
    }

    /** How often rare things happened, so that a test can tell that its runs reach them. */
    int[] rarities(int end) {
        Findings found = found(end);
        return new int[] {found.codeFaults, found.losses, found.wrongHalves, found.farFaults,
            found.numbersFound, found.numbersLost, found.failedAt26, found.failedAt64};
    }

    private static void allow(boolean allowed) {
        if (!allowed) {
            throw new IllegalArgumentException();
        }
    }

    private static boolean isEnd(int end) {
        return end == 0 || end == 1;
    }

    private void takeAt(int end, int symbol) {
        Integer other = disturbed.get(end).remove(time);
        int come = other == null ? symbol : other;
        taken.get(end).add(come);
        if (slipping[end]) {
            taken.get(end).add(come);
            slipping[end] = false;
        }
    }

    private void beginFrames() {
        for (int end = 0; end < 2; end++) {
            int[] bits = bitsOfNextFrame(end);
            for (int bit : bits) {
                sent.get(end).add(bit);
            }
        }
        for (int end = 0; end < 2; end++) {
            int[] symbols = encode(sent.get(end));
            for (int i = 0; i < 32; i++) {
                int bit = time + i - 3;
                symbolsOfFrame[end][i] = bit < 0 ? 0 : symbols[bit];
            }
        }
    }

    private int[] bitsOfNextFrame(int end) {
        int number = sent.get(end).size() / 32 % 16;
        int[] bits = new int[32];
        Findings own = found(end);
        if (number % 2 == 0) {
            System.arraycopy(WORD, 0, bits, 1, 7);
            bits[0] = checkOfHalfBefore(end) >> (3 - number % 8 / 2) & 1;
        } else {
            Arrays.fill(bits, 1, 8, 1);
            bits[2] = own.aligned ? 0 : 1;
            if (number == 13) {
                bits[0] = own.firstHalfWrong ? 0 : 1;
            } else if (number == 15) {
                bits[0] = own.secondHalfWrong ? 0 : 1;
            } else {
                bits[0] = ROUND_WORD[number / 2];
            }
        }
        for (int i = 8; i < 32; i++) {
            bits[i] = loaded[end][i / 8] >> (7 - i % 8) & 1;
        }
        return bits;
    }

    private int checkOfHalfBefore(int end) {
        List<Integer> bits = sent.get(end);
        int half = bits.size() / 256;
        if (half == 0) {
            return 0;
        }
        List<Integer> before = bits.subList(256 * half - 256, 256 * half);
        int[] all = new int[256];
        for (int i = 0; i < 256; i++) {
            all[i] = before.get(i);
        }
        return check(all);
    }

    /** The check of 256 bits: the first bits of even frames, each 64th, count as 0. */
    private static int check(int[] bits) {
        boolean[] c = new boolean[4];
        for (int i = 0; i < 256; i++) {
            boolean bit = bits[i] == 1 && i % 64 != 0;
            boolean b = bit ^ c[0];
            c[0] = c[1];
            c[1] = c[2];
            c[2] = c[3] ^ b;
            c[3] = b;
        }
        return (c[0] ? 8 : 0) + (c[1] ? 4 : 0) + (c[2] ? 2 : 0) + (c[3] ? 1 : 0);
    }

    private static int[] encode(List<Integer> bits) {
        int[] symbols = new int[bits.size()];
        int latest = -1;
        int pulses = 0;
        int i = 0;
        while (i < symbols.length) {
            if (bits.get(i) == 1) {
                latest = -latest;
                symbols[i] = latest;
                pulses++;
                i++;
            } else if (i + 4 <= symbols.length && !bits.subList(i, i + 4).contains(1)) {
                if (pulses % 2 == 0) {
                    latest = -latest;
                    symbols[i] = latest;
                }
                symbols[i + 3] = latest;
                pulses = 0;
                i += 4;
            } else {
                i++;
            }
        }
        return symbols;
    }

    private Findings found(int end) {
        if (keptFor[end] != taken.get(end).size()) {
            kept[end] = findAll(taken.get(end));
            keptFor[end] = taken.get(end).size();
        }
        return kept[end];
    }

    private static Findings findAll(List<Integer> symbols) {
        Findings found = new Findings();
        int[] bits = decode(symbols, found);
        findFrames(bits, found);
        for (int i = 0; i < found.alignments.size(); i++) {
            found.firstHalfWrong = false;
            found.secondHalfWrong = false;
            number(found.alignments.get(i), found);
            findHalves(found.alignments.get(i), found);
        }
        if (!found.aligned) {
            found.firstHalfWrong = false;
            found.secondHalfWrong = false;
        }
        return found;
    }

    private static int[] decode(List<Integer> symbols, Findings found) {
        int n = symbols.size();
        int[] bits = new int[n];
        int pulseAt = -1;
        int vAt = -1;
        for (int i = 0; i < n; i++) {
            int symbol = symbols.get(i);
            if (symbol == 0) {
                if (pulseAt >= 0 && (i - pulseAt) % 4 == 0) {
                    found.codeFaults++;
                }
                continue;
            }
            boolean violation = pulseAt >= 0 && symbols.get(pulseAt) == symbol;
            boolean isV = violation && i - pulseAt > 2;
            bits[i] = isV ? 0 : 1;
            if (isV) {
                bits[i - 3] = 0;
                if (vAt >= 0 && symbols.get(vAt) == symbol) {
                    found.codeFaults++;
                }
                vAt = i;
            } else if (violation) {
                found.codeFaults++;
            }
            pulseAt = i;
        }
        return Arrays.copyOf(bits, Math.max(0, n - 3));
    }

    private static boolean wordAt(int[] bits, int first) {
        return Arrays.equals(Arrays.copyOfRange(bits, first, first + 7), WORD);
    }

    private static void findFrames(int[] bits, Findings found) {
        int from = 0;
        while (true) {
            int start = findStart(bits, from, found);
            if (start < 0) {
                return;
            }
            from = followFrames(bits, start, found);
            if (from < 0) {
                found.aligned = true;
                return;
            }
            found.losses++;
        }
    }

    /** Where the first frame of an alignment begins, or -1 when none is found. */
    private static int findStart(int[] bits, int searchedFrom, Findings found) {
        int from = searchedFrom;
        for (int last = from + 6; last < bits.length; last++) {
            if (last - from < 6 || !wordAt(bits, last - 6)) {
                continue;
            }
            if (last + 26 >= bits.length) {
                return -1;
            }
            if (bits[last + 26] == 0) {
                found.failedAt26++;
                from = last + 27;
                last = last + 26;
            } else if (last + 64 >= bits.length) {
                return -1;
            } else if (wordAt(bits, last + 58)) {
                return last + 57;
            } else {
                found.failedAt64++;
                from = last + 65;
                last = last + 64;
            }
        }
        return -1;
    }

    /** Adds the frames of one alignment; where the search after its loss begins, or -1 if not lost. */
    private static int followFrames(int[] bits, int start, Findings found) {
        List<Frame> frames = new ArrayList<>();
        found.alignments.add(frames);
        int wrong = 0;
        for (int k = 0; ; k++) {
            int first = start + 32 * k;
            if (k % 2 == 0 && first + 8 <= bits.length) {
                wrong = wordAt(bits, first + 1) ? 0 : wrong + 1;
                if (wrong == 3) {
                    return first + 8;
                }
            }
            if (first + 32 > bits.length) {
                return -1;
            }
            frames.add(new Frame(Arrays.copyOfRange(bits, first, first + 32), k % 2 == 1));
        }
    }

    private static boolean roundWordEndsAt(List<Frame> frames, int k) {
        if (k % 2 == 0 || k < 11) {
            return false;
        }
        for (int i = 0; i < 6; i++) {
            if (frames.get(k - 10 + 2 * i).bits[0] != ROUND_WORD[i]) {
                return false;
            }
        }
        return true;
    }

    private static void number(List<Frame> frames, Findings found) {
        int wrongRounds = 0;
        for (int k = 0; k < frames.size(); k++) {
            Frame frame = frames.get(k);
            int before = k == 0 ? -1 : frames.get(k - 1).number;
            if (before >= 0) {
                frame.number = (before + 1) % 16;
                if (frame.number == 11) {
                    wrongRounds = roundWordEndsAt(frames, k) ? 0 : wrongRounds + 1;
                    if (wrongRounds == 2) {
                        frame.number = -1;
                        found.numbersLost++;
                    }
                }
            } else if (roundWordEndsAt(frames, k)) {
                frame.number = 11;
                wrongRounds = 0;
                found.numbersFound++;
            }
            if ((frame.number == 13 || frame.number == 15) && frame.bits[0] == 0) {
                found.farFaults++;
            }
        }
    }

    private static void findHalves(List<Frame> frames, Findings found) {
        for (int k = 0; k < frames.size(); k++) {
            int number = frames.get(k).number;
            if (number < 0) {
                found.firstHalfWrong = false;
                found.secondHalfWrong = false;
            }
            if (number % 8 != 7 || k < 16 || !knownThrough(frames, k - 16, k)) {
                continue;
            }
            boolean wrong = check(bitsOf(frames, k - 15)) != checkCome(frames, k - 7);
            found.wrongHalves += wrong ? 1 : 0;
            if (number == 15) {
                found.firstHalfWrong = wrong;
            } else {
                found.secondHalfWrong = wrong;
            }
        }
    }

    private static boolean knownThrough(List<Frame> frames, int first, int last) {
        for (int k = first; k <= last; k++) {
            if (frames.get(k).number < 0) {
                return false;
            }
        }
        return true;
    }

    private static int[] bitsOf(List<Frame> frames, int first) {
        int[] bits = new int[256];
        for (int i = 0; i < 8; i++) {
            System.arraycopy(frames.get(first + i).bits, 0, bits, 32 * i, 32);
        }
        return bits;
    }

    private static int checkCome(List<Frame> frames, int first) {
        int c = 0;
        for (int i = 0; i < 8; i += 2) {
            c = 2 * c + frames.get(first + i).bits[0];
        }
        return c;
    }
}
