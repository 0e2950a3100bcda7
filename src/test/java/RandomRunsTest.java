import java.util.Arrays;
import java.util.Map;
import java.util.Random;
import java.util.TreeMap;

/** Runs of calls drawn from fixed seeds, answered by the program and by the model. */
public final class RandomRunsTest {
    private static final Map<String, Integer> SEEN = new TreeMap<>();

    private final Random random;
    private final Pair pair = new Pair();
    private final int[][] damages = new int[8][];
    private final int riskOfStop;

    private RandomRunsTest(long seed) {
        random = new Random(seed);
        riskOfStop = random.nextInt(3);
    }

    public static void main(String[] args) {
        int runs = args.length > 0 ? Integer.parseInt(args[0]) : 800;
        int wrong = 0;
        for (int seed = 0; seed < runs && wrong == 0; seed++) {
            RandomRunsTest test = new RandomRunsTest(seed);
            test.run();
            wrong += test.pair.wrong;
            test.pair.calls.forEach(RandomRunsTest::note);
        }
        if (args.length > 1) {
            SEEN.forEach((what, count) -> System.out.println(what + ": " + count));
        }
        System.out.println(wrong == 0 ? "all answers are as due" : wrong + " answers are not as due");
        System.exit(wrong == 0 ? 0 : 1);
    }

    private static void note(String call) {
        String name = call.substring(0, call.indexOf('('));
        String answer = call.substring(call.indexOf("-> ") + 3);
        SEEN.merge(name + " " + (answer.matches("[1-9]\\d*") ? "above 0" : answer), 1, Integer::sum);
    }

    private void run() {
        if (random.nextInt(10) > 0) {
            newEpoch();
        }
        while (pair.calls.size() < 300 && pair.wrong == 0) {
            step();
        }
        if (pair.wrong == 0) {
            lookAtAll();
        }
    }

    private void step() {
        int kind = random.nextInt(100);
        if (kind < 14) {
            newFile();
        } else if (kind < 18) {
            newEpoch();
        } else if (kind < 36) {
            spoilSome();
        } else if (kind < 50) {
            readSome();
        } else if (kind < 58) {
            pair.scrub(someGroup());
        } else if (kind < 64) {
            pair.verify(someFile());
        } else if (kind < 70) {
            pair.rewrap(someFile());
        } else if (kind < 74) {
            pair.dropEpoch(odd(Math.max(1, pair.model.epochKeys.size())) + 1);
        } else if (kind < 78) {
            pair.delete(someFile());
        } else if (kind < 82 && riskOfStop > 0) {
            pair.stopAfter(random.nextInt(8) == 0 ? random.nextInt(210) - 100 : random.nextInt(6));
        } else if (kind < 85) {
            pair.mount();
        } else if (kind < 88) {
            pair.file(someFile(), odd(4));
        } else if (kind < 92) {
            pair.block(odd(44), odd(64));
        } else if (kind < 96) {
            pair.state(odd(6));
        } else {
            single();
        }
        if (random.nextInt(3) == 0 && pair.state(4).equals("1")) {
            pair.mount();
        }
    }

    /** Now and then a number beyond either end. */
    private int odd(int bound) {
        int kind = random.nextInt(30);
        return kind == 0 ? -1 : kind == 1 ? bound : kind == 2 ? random.nextInt() : random.nextInt(bound);
    }

    /** Mostly one that there is. */
    private int someFile() {
        int file = odd(4);
        return pair.model.header(file) == null && random.nextInt(4) > 0 ? odd(4) : file;
    }

    /** Mostly one that a file has. */
    private int someGroup() {
        Model.Header header = pair.model.header(someFile());
        if (header == null || header.groups() == 0 || random.nextInt(5) == 0) {
            return odd(6);
        }
        return header.first() + random.nextInt(header.groups());
    }

    private void single() {
        switch (random.nextInt(6)) {
            case 0 -> pair.put(random.nextInt(), odd(5));
            case 1 -> pair.epoch();
            case 2 -> pair.create(random.nextInt());
            case 3 -> pair.append();
            case 4 -> pair.finish();
            default -> pair.output(odd(40));
        }
    }

    private void fill(int bytes) {
        for (int left = bytes; left > 0; left -= 4) {
            pair.put(random.nextInt(), Math.min(4, left));
        }
    }

    private void newEpoch() {
        int left = 32 - Integer.parseInt(pair.state(5).replace("none", "0"));
        fill(left);
        pair.epoch();
    }

    private void newFile() {
        pair.create(random.nextInt(4) == 0 ? random.nextInt(3) - 1 : random.nextInt());
        int parts = random.nextInt(8) == 0 ? 5 : random.nextInt(3);
        for (int i = 0; i < parts && pair.calls.size() < 280; i++) {
            fill(random.nextInt(6) == 0 ? 192 : random.nextInt(4) == 0 ? 48 : random.nextInt(100));
            pair.append();
        }
        if (random.nextInt(6) == 0) {
            newEpoch();
        }
        if (random.nextInt(12) > 0) {
            pair.finish();
        }
    }

    private void spoilSome() {
        int group = random.nextInt(12) == 0 ? 6 : someGroup();
        int count = random.nextInt(4);
        for (int i = 0; i <= count; i++) {
            int block = group < 0 || group > 5 ? random.nextInt(8) : 8 + 6 * group + random.nextInt(6);
            int slot = random.nextInt(damages.length);
            if (damages[slot] != null && random.nextInt(3) == 0) {
                int[] old = damages[slot];
                pair.damage(old[0], old[1], old[2]);
                damages[slot] = null;
            } else if (random.nextInt(3) == 0) {
                pair.spoil(random.nextInt(20) == 0 ? odd(44) : block);
            } else if (random.nextInt(12) == 0) {
                pair.damage(odd(44), odd(64), odd(256));
            } else {
                int[] fault = {block, random.nextInt(64), 1 << random.nextInt(8)};
                damages[slot] = fault;
                pair.damage(fault[0], fault[1], fault[2]);
            }
        }
    }

    private void readSome() {
        int file = someFile();
        Model.Header header = pair.model.header(file);
        int length = header == null ? 0 : header.length();
        int from = random.nextInt(3) == 0 ? odd(length + 1) : random.nextInt(length + 1);
        int len = random.nextInt(8) == 0 ? random.nextInt() : random.nextInt(length + 20);
        String count = pair.read(file, from, len);
        if (count.matches("\\d+")) {
            int last = Integer.parseInt(count) - 1;
            for (int i : new int[] {0, last, last + 1, random.nextInt(last + 2)}) {
                pair.output(i);
            }
        } else {
            pair.output(0);
        }
    }

    private void lookAtAll() {
        for (int what = 0; what < 6; what++) {
            pair.state(what);
        }
        for (int f = 0; f < 4; f++) {
            pair.verify(f);
        }
        for (int block = 0; block < 44; block++) {
            pair.block(block, random.nextInt(48));
            pair.block(block, 48 + random.nextInt(16));
        }
        // Looking costs calls, and those that are left are given to what was damaged.
        int[] blocks = Arrays.stream(damages).filter(d -> d != null).mapToInt(d -> d[0]).toArray();
        for (int block : blocks) {
            for (int i = 0; i < 64; i += 7) {
                pair.block(block, i);
            }
        }
    }
}
