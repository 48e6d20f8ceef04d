import java.util.ArrayList;
import java.util.Arrays;
import java.util.List;
import java.util.Map;
import java.util.TreeMap;

/**
 * The document once more, as plainly as the Java library allows: a writing is a list of steps, and whatever can
 * be worked out anew (digests, prints, free blocks) is.
 */
final class Model implements Calls {
    private record Step(int block, int i, int value) {
    }

    private record Entry(int[] message, List<Integer> record, int mark) {
        List<Integer> places() {
            List<Integer> places = new ArrayList<>(record);
            places.add(mark);
            return places;
        }
    }

    private record Near(int number, int bits) {
    }

    private static final class Draft {
        final int width;
        final int height;
        final List<Integer> samples = new ArrayList<>();

        Draft(int width, int height) {
            this.width = width;
            this.height = height;
        }

        boolean whole() {
            return samples.size() == width * height;
        }

        int[] message() {
            int[] message = new int[2 + samples.size()];
            message[0] = width;
            message[1] = height;
            for (int i = 0; i < samples.size(); i++) {
                message[2 + i] = samples.get(i);
            }
            return message;
        }
    }

    private final int[][] blocks;
    private Map<Integer, Draft> drafts = new TreeMap<>();
    private Map<Integer, Entry> entries = new TreeMap<>();
    private List<Near> found = new ArrayList<>();
    private int fuse = -1;
    private boolean cut = false;

    Model(int blocks) {
        this.blocks = new int[blocks < 1 ? 1 : blocks > 40 ? 40 : blocks][64];
    }

    public int picture(int width, int height) {
        open();
        argument(width >= 1 && width <= 8 && height >= 1 && height <= 8);
        int number = least(drafts, 8);
        drafts.put(number, new Draft(width, height));
        return number;
    }

    public int samples(int picture, int n, int v, int step) {
        open();
        Draft draft = draft(picture);
        argument(n >= 1);
        long value = v;
        for (int i = 0; i < n && !draft.whole(); i++) {
            draft.samples.add((int) Math.floorMod(value, 256L));
            value += step;
        }
        return draft.samples.size();
    }

    public int keep(int picture) {
        open();
        Draft draft = draft(picture);
        argument(draft.whole());
        int[] message = draft.message();
        for (int number : entries.keySet()) {
            if (sameDigest(entries.get(number).message(), message)) {
                drafts.remove(picture);
                return number;
            }
        }
        int number = least(entries, 16);
        List<Integer> free = free();
        int size = message.length > 56 ? 2 : 1;
        if (free.size() < size + 1) {
            throw new UnsupportedOperationException();
        }
        List<Step> steps = new ArrayList<>();
        for (int block : free) {
            if (blocks[block][5] == number && !blank(block)) {
                steps.addAll(wiping(block));
            }
        }
        for (int which = 0; which < size; which++) {
            int[] part = Arrays.copyOfRange(message, 56 * which, Math.min(message.length, 56 * which + 56));
            int place = free.get(which);
            steps.addAll(writing(place, Check.block(place, which == 0 ? 1 : 2, number, which, part.length, part)));
        }
        int mark = free.get(size);
        steps.addAll(writing(mark, Check.block(mark, 3, number, 0, 1, size)));
        if (!done(steps)) {
            return -2;
        }
        entries.put(number, new Entry(message, List.copyOf(free.subList(0, size)), mark));
        drafts.remove(picture);
        return number;
    }

    public int digest(int number, int i) {
        open();
        int[] digest = Check.digest(entry(number).message());
        index(i >= 0 && i < 8);
        return digest[i];
    }

    public long print(int number) {
        open();
        return printOf(entry(number).message());
    }

    public int sample(int number, int x, int y) {
        open();
        int[] message = entry(number).message();
        index(x >= 0 && y >= 0 && x < message[0] && y < message[1]);
        return message[2 + x + y * message[0]];
    }

    public int near(int picture, int bound) {
        open();
        Draft draft = draft(picture);
        argument(draft.whole() && bound >= 0 && bound <= 64);
        found = new ArrayList<>();
        for (int bits = 0; bits <= bound; bits++) {
            for (int number : entries.keySet()) {
                long differing = printOf(entries.get(number).message()) ^ printOf(draft.message());
                if (Long.bitCount(differing) == bits) {
                    found.add(new Near(number, bits));
                }
            }
        }
        return found.size();
    }

    public int found(int k, int what) {
        open();
        index(k >= 0 && k < found.size());
        argument(what == 0 || what == 1);
        return what == 0 ? found.get(k).number() : found.get(k).bits();
    }

    public int drop(int number) {
        open();
        Entry entry = entry(number);
        List<Step> steps = new ArrayList<>(wiping(entry.mark()));
        for (int block : entry.record()) {
            steps.addAll(wiping(block));
        }
        if (!done(steps)) {
            return -2;
        }
        entries.remove(number);
        return entry.places().size();
    }

    public int sweep() {
        open();
        List<Step> steps = new ArrayList<>();
        for (int block : free()) {
            if (!blank(block)) {
                steps.addAll(wiping(block));
            }
        }
        return done(steps) ? steps.size() / 64 : -2;
    }

    public int fuse(int bytes) {
        open();
        argument(bytes >= -1);
        int before = fuse;
        fuse = bytes;
        return before;
    }

    public int reopen() {
        cut = false;
        fuse = -1;
        drafts = new TreeMap<>();
        entries = new TreeMap<>();
        found = new ArrayList<>();
        for (int number = 0; number < 16; number++) {
            Entry entry = read(number);
            if (entry != null && entries.values().stream().noneMatch(e -> sameDigest(e.message(), entry.message()))) {
                entries.put(number, entry);
            }
        }
        return entries.size();
    }

    public int poke(int block, int i, int mask) {
        byteAt(block, i);
        argument(mask >= 0 && mask <= 255);
        blocks[block][i] ^= mask;
        return blocks[block][i];
    }

    public int badAt() {
        for (int block = 0; block < blocks.length; block++) {
            if (!blank(block) && !good(block)) {
                return block;
            }
        }
        return -1;
    }

    public int byteAt(int block, int i) {
        index(block >= 0 && block < blocks.length && i >= 0 && i < 64);
        return blocks[block][i];
    }

    public int told(int what) {
        return switch (what) {
            case 0 -> blocks.length;
            case 1 -> cut ? 0 : free().size();
            case 2 -> entries.size();
            case 3 -> drafts.size();
            case 4 -> found.size();
            case 5 -> cut ? 1 : 0;
            case 6 -> fuse;
            default -> -1;
        };
    }

    private Entry read(int number) {
        List<Integer> marks = withHead(number, 3, -1);
        if (marks.size() != 1) {
            return null;
        }
        int[] mark = blocks[marks.get(0)];
        if (mark[6] != 0 || mark[7] != 1 || mark[8] < 1 || mark[8] > 2) {
            return null;
        }
        List<Integer> record = new ArrayList<>();
        List<Integer> message = new ArrayList<>();
        for (int which = 0; which < mark[8]; which++) {
            List<Integer> parts = withHead(number, which == 0 ? 1 : 2, which);
            if (parts.size() != 1) {
                return null;
            }
            int[] part = blocks[parts.get(0)];
            if (which + 1 < mark[8] && part[7] != 56) {
                return null;
            }
            record.add(parts.get(0));
            for (int i = 0; i < part[7]; i++) {
                message.add(part[8 + i]);
            }
        }
        if (message.size() < 2 || message.get(0) < 1 || message.get(0) > 8 || message.get(1) < 1 || message.get(1) > 8
                || message.size() != 2 + message.get(0) * message.get(1)) {
            return null;
        }
        return new Entry(message.stream().mapToInt(b -> b).toArray(), record, marks.get(0));
    }

    private List<Integer> withHead(int number, int kind, int which) {
        List<Integer> list = new ArrayList<>();
        for (int block = 0; block < blocks.length; block++) {
            if (good(block) && blocks[block][4] == kind && blocks[block][5] == number
                    && (which < 0 || blocks[block][6] == which)) {
                list.add(block);
            }
        }
        return list;
    }

    private boolean good(int block) {
        int[] b = blocks[block];
        return b[4] >= 1 && b[4] <= 3 && b[5] <= 15 && b[7] <= 56 && Arrays.equals(b, Check.seal(block, b.clone()));
    }

    private boolean blank(int block) {
        return Arrays.stream(blocks[block]).allMatch(b -> b == 0);
    }

    private List<Integer> free() {
        List<Integer> free = new ArrayList<>();
        for (int block = 0; block < blocks.length; block++) {
            int at = block;
            if (entries.values().stream().noneMatch(e -> e.places().contains(at))) {
                free.add(block);
            }
        }
        return free;
    }

    private static List<Step> wiping(int block) {
        List<Step> steps = new ArrayList<>();
        steps.add(new Step(block, 4, 0));
        for (int i = 0; i < 64; i++) {
            if (i != 4) {
                steps.add(new Step(block, i, 0));
            }
        }
        return steps;
    }

    private static List<Step> writing(int block, int[] bytes) {
        List<Step> steps = new ArrayList<>();
        steps.add(new Step(block, 4, 0));
        for (int i = 5; i < 69; i++) {
            int at = i < 64 ? i : i - 64;
            steps.add(new Step(block, at, bytes[at]));
        }
        return steps;
    }

    private boolean done(List<Step> steps) {
        for (Step step : steps) {
            if (fuse == 0) {
                cut = true;
                drafts = new TreeMap<>();
                entries = new TreeMap<>();
                found = new ArrayList<>();
                return false;
            }
            fuse = fuse < 0 ? fuse : fuse - 1;
            blocks[step.block()][step.i()] = step.value();
        }
        return true;
    }

    private static long printOf(int[] message) {
        int[] samples = Arrays.copyOfRange(message, 2, message.length);
        int sum = Arrays.stream(samples).sum();
        long print = 0;
        for (int y = 7; y >= 0; y--) {
            for (int x = 7; x >= 0; x--) {
                int sample = samples[y * message[1] / 8 * message[0] + x * message[0] / 8];
                print = print << 1 | (sample * samples.length > sum ? 1 : 0);
            }
        }
        return print;
    }

    private static boolean sameDigest(int[] one, int[] other) {
        return Arrays.equals(Check.digest(one), Check.digest(other));
    }

    private static int least(Map<Integer, ?> taken, int end) {
        for (int number = 0; number < end; number++) {
            if (!taken.containsKey(number)) {
                return number;
            }
        }
        throw new UnsupportedOperationException();
    }

    private Draft draft(int picture) {
        index(drafts.containsKey(picture));
        return drafts.get(picture);
    }

    private Entry entry(int number) {
        index(entries.containsKey(number));
        return entries.get(number);
    }

    private void open() {
        if (cut) {
            throw new IllegalStateException();
        }
    }

    private static void index(boolean there) {
        if (!there) {
            throw new IndexOutOfBoundsException();
        }
    }

    private static void argument(boolean told) {
        if (!told) {
            throw new IllegalArgumentException();
        }
    }
}
