import java.util.Random;

/**
 * Headers that open but say what no finish() would: bits are turned until they stand there. The
 * document calls them good, so no call may throw by itself, and model and program must agree.
 */
public final class ForgedHeadersTest {
    private ForgedHeadersTest() {
    }

    public static void main(String[] args) {
        int[][] claims = {
            {65535, 0, 255}, {65535, 255, 255}, {65535, 0, 6}, {1152, 0, 6}, {1153, 0, 6}, {0, 5, 0},
            {0, 3, 2}, {10, 0, 0}, {10, 5, 1}, {300, 5, 2}, {100, 6, 1}, {100, 200, 100},
            {48, 0, 6}, {193, 0, 1}, {192, 1, 1}, {768, 0, 4}, {49152, 0, 6}};
        int wrong = 0;
        for (int seed = 0; seed < 200 && wrong == 0; seed++) {
            wrong += run(new Random(seed), claims[seed % claims.length]);
        }
        wrong += epochToCome();
        System.out.println(wrong == 0 ? "all answers are as due" : wrong + " answers are not as due");
        System.exit(wrong == 0 ? 0 : 1);
    }

    private static int run(Random random, int[] claim) {
        Pair pair = new Pair();
        fill(pair, random, 32);
        pair.epoch();
        pair.create(random.nextInt());
        fill(pair, random, 192);
        pair.append();
        fill(pair, random, random.nextInt(20));
        pair.append();
        pair.finish();
        Model.Header right = pair.model.header(0);
        int file = random.nextInt(3) == 0 ? 1 : 0;
        forge(pair, new Model.Header(file, 1, claim[0], claim[1], claim[2], right.salt(), right.key()));
        look(pair, random, file, claim[0]);
        if (random.nextBoolean()) {
            fill(pair, random, 32);
            pair.epoch();
            pair.rewrap(file);
            pair.dropEpoch(1);
        }
        pair.create(5);
        pair.append();
        pair.finish();
        pair.spoil(8 + random.nextInt(12));
        look(pair, random, file, claim[0]);
        pair.delete(file);
        look(pair, random, file, claim[0]);
        return pair.wrong;
    }

    /** A header that stands there before its epoch is good from that epoch on. */
    private static int epochToCome() {
        Pair later = new Pair();
        fill(later, new Random(1), 32);
        later.epoch();
        fill(later, new Random(2), 32);
        later.epoch();
        later.create(6);
        later.finish();

        Pair pair = new Pair();
        fill(pair, new Random(1), 32);
        pair.epoch();
        for (int i = 0; i < 64; i++) {
            pair.damage(1, i, later.model.tape[1][i] & 255);
        }
        pair.file(0, 1);
        fill(pair, new Random(2), 32);
        pair.epoch();
        boolean isThere = pair.file(0, 1).equals("2");
        return later.wrong + pair.wrong + (isThere ? 0 : 1);
    }

    private static void forge(Pair pair, Model.Header header) {
        byte[] block = pair.model.headerBlock(header);
        int at = 2 * header.file();
        for (int i = 0; i < 64; i++) {
            pair.damage(at, i, (block[i] ^ pair.model.tape[at][i]) & 255);
        }
    }

    private static void look(Pair pair, Random random, int file, int length) {
        for (int what = 0; what < 6; what++) {
            pair.state(what);
            pair.file(file, what);
        }
        pair.verify(file);
        int[] froms = {0, 190, 1100, 1151, length, random.nextInt(length + 1)};
        for (int from : froms) {
            pair.read(file, from, random.nextBoolean() ? 10 : Integer.MAX_VALUE);
            pair.output(0);
            pair.output(9);
        }
        for (int group = 0; group < 6; group++) {
            pair.scrub(group);
        }
        pair.mount();
    }

    private static void fill(Pair pair, Random random, int bytes) {
        for (int left = bytes; left > 0; left -= 4) {
            pair.put(random.nextInt(), Math.min(4, left));
        }
    }
}
