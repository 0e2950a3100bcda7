import java.util.ArrayList;
import java.util.List;

/**
 * What the tests of the edges have in common. An edge is the end of a run on a new object; what a
 * refused call leaves is told by looks, each on an object of its own, since 512 calls are too few
 * to see a whole cartridge and all that is hidden behind it.
 */
final class Edges {
    static final String STATE = "IllegalStateException";
    static final String ARGUMENT = "IllegalArgumentException";
    static final String MISSING = "NoSuchElementException";
    static final String INDEX = "IndexOutOfBoundsException";
    static final String LOST = "UnsupportedOperationException";

    static final int LEAST = Integer.MIN_VALUE;
    static final int MOST = Integer.MAX_VALUE;

    interface Run {
        void on(Pair x);
    }

    interface Call {
        String on(Pair x);
    }

    private static final List<Pair> PAIRS = new ArrayList<>();
    private static final List<Run> LOOKS = looks();
    private static int wrong;

    private Edges() {
    }

    static Pair start() {
        Pair pair = new Pair();
        PAIRS.add(pair);
        return pair;
    }

    static Pair start(Run before) {
        Pair pair = start();
        before.on(pair);
        return pair;
    }

    static void end() {
        PAIRS.forEach(Edges::close);
        System.out.println(wrong == 0 ? "all answers are as due" : wrong + " answers are not as due");
        System.exit(wrong == 0 ? 0 : 1);
    }

    private static void close(Pair pair) {
        wrong += pair.wrong;
        if (pair.beyond > 0) {
            wrong++;
            System.out.println("a run of more than 512 calls: " + pair.calls);
        }
    }

    static void due(String what, String want, String got) {
        if (!got.equals(want)) {
            wrong++;
            System.out.println(what + ": answered " + got + ", due is " + want);
        }
    }

    static void due(String what, long want, String got) {
        due(what, Long.toString(want), got);
    }

    static void due(String what, boolean holds) {
        due(what, "true", Boolean.toString(holds));
    }

    /** The call answers so, and behind it all is as if it had not been made. */
    static void refused(String what, String want, Run before, Call call) {
        for (Run look : LOOKS) {
            Pair without = new Pair();
            Pair with = new Pair();
            before.on(without);
            before.on(with);
            due(what, want, call.on(with));
            due(what + ": what is behind it", String.join("\n", answers(look, without)),
                    String.join("\n", answers(look, with)));
            close(without);
            close(with);
        }
    }

    private static List<String> answers(Run look, Pair pair) {
        int done = pair.calls.size();
        look.on(pair);
        return pair.calls.subList(done, pair.calls.size());
    }

    private static List<Run> looks() {
        List<Run> looks = new ArrayList<>();
        for (int b = 0; b < 44; b += 4) {
            int first = b;
            looks.add(x -> lookAtBlocks(x, first, first + 4));
        }
        looks.add(Edges::lookAtFiles);
        looks.add(Edges::lookBehindFinish);
        looks.add(Edges::lookAtTagsBehindFinish);
        looks.add(Edges::lookBehindDeletes);
        looks.add(Edges::lookBehindMount);
        looks.add(Edges::lookBehindEpoch);
        return looks;
    }

    private static void lookAtBlocks(Pair x, int first, int end) {
        for (int b = first; b < end; b++) {
            for (int i = 0; i < 64; i++) {
                x.block(b, i);
            }
        }
    }

    private static void lookAtStates(Pair x) {
        for (int what = 0; what < 6; what++) {
            x.state(what);
        }
    }

    private static void lookAtFiles(Pair x) {
        lookAtStates(x);
        for (int f = 0; f < 4; f++) {
            for (int what = 0; what < 4; what++) {
                x.file(f, what);
            }
            x.verify(f);
        }
        for (int i = 0; i < 100; i++) {
            x.output(i);
        }
        for (int g = 0; g < 6; g++) {
            x.scrub(g);
        }
    }

    /** The file that is begun and the buffer are seen only when they have become a file. */
    private static void lookBehindFinish(Pair x) {
        x.append();
        x.finish();
        lookAtStates(x);
        for (int f = 0; f < 4; f++) {
            String length = x.file(f, 0);
            int from = length.matches("\\d+") ? Math.max(0, Integer.parseInt(length) - 52) : 0;
            x.read(f, from, 52);
            for (int i = 0; i < 52; i++) {
                x.output(i);
            }
        }
    }

    /** A header's tag tells whether its salt and its epoch's key are still the same. */
    private static void lookAtTagsBehindFinish(Pair x) {
        x.append();
        x.finish();
        for (int b = 0; b < 8; b++) {
            for (int i = 48; i < 64; i++) {
                x.block(b, i);
            }
        }
    }

    /** How many writes are left before the cartridge stops is seen only by writing. */
    private static void lookBehindDeletes(Pair x) {
        for (int f = 3; f >= 0; f--) {
            x.delete(f);
            x.state(3);
            x.state(4);
        }
    }

    private static void lookBehindMount(Pair x) {
        x.mount();
        x.create(77);
        x.append();
        x.finish();
        lookAtStates(x);
        for (int f = 0; f < 4; f++) {
            x.file(f, 0);
        }
    }

    private static void lookBehindEpoch(Pair x) {
        for (int k = 0; k < 32 && !x.state(5).equals("32"); k++) {
            x.put(k, 1);
        }
        x.epoch();
        for (int f = 0; f < 4; f++) {
            x.rewrap(f);
            x.verify(f);
        }
        for (int e = 1; e < 10; e++) {
            x.dropEpoch(e);
        }
        lookAtStates(x);
    }

    // ---- runs that lead to an edge

    /** Bytes start, start + 7, start + 14 .., the lowest 8 bits of each. */
    static void fill(Pair x, int count, int start) {
        for (int k = 0; k < count; k += 4) {
            int n = Math.min(4, count - k);
            int word = 0;
            for (int j = 0; j < n; j++) {
                word = (word << 8) | ((start + 7 * (k + j)) & 255);
            }
            x.put(word, n);
        }
    }

    /** The number of the epoch comes into its key, so that no two are the same. */
    static void epoch(Pair x, int number) {
        fill(x, 32, 100 + number);
        x.epoch();
    }

    static byte[] epochKey(int number) {
        byte[] key = new byte[32];
        for (int k = 0; k < 32; k++) {
            key[k] = (byte) (100 + number + 7 * k);
        }
        return key;
    }

    /** Byte k of the file is 7 k, the lowest 8 bits. */
    static void begin(Pair x, int salt, int length) {
        x.create(salt);
        for (int done = 0; done < length; done += 192) {
            fill(x, Math.min(192, length - done), 7 * done);
            x.append();
        }
    }

    static void add(Pair x, int length) {
        begin(x, 1000 + length, length);
        x.finish();
    }

    /** An epoch, and files of these lengths. */
    static Run files(int... lengths) {
        return x -> {
            epoch(x, 1);
            for (int length : lengths) {
                add(x, length);
            }
        };
    }

    static Run then(Run first, Run second) {
        return x -> {
            first.on(x);
            second.on(x);
        };
    }

    /** The cartridge stops by a write of this file's header that is not done. */
    static void stop(Pair x, int file) {
        x.stopAfter(0);
        due("the write that stops", STATE, x.delete(file));
        due("stopped", 1, x.state(4));
    }

    static void dueBytes(Pair x, int file, int from, int count) {
        due("read(" + file + ", " + from + ", " + count + ")", count, x.read(file, from, count));
        for (int i = 0; i < count; i++) {
            due("output(" + i + ")", (7 * (from + i)) & 255, x.output(i));
        }
        due("output behind what was read", INDEX, x.output(count));
    }
}
