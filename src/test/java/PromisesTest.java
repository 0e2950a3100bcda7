import java.util.Arrays;

/** The document's promises in their order: ordinary inputs, edges and wrong inputs. */
public final class PromisesTest {
    private static final String STATE = "IllegalStateException";
    private static final String ARGUMENT = "IllegalArgumentException";
    private static final String MISSING = "NoSuchElementException";
    private static final String INDEX = "IndexOutOfBoundsException";
    private static final String LOST = "UnsupportedOperationException";

    private static int wrong;

    private PromisesTest() {
    }

    public static void main(String[] args) {
        newObject();
        put();
        epoch();
        create();
        createAndEpochs();
        append();
        appendAndGroups();
        finish();
        finishPlaces();
        finishStops();
        finishWithoutGroups();
        finishedBlocks();
        read();
        readRecovers();
        readLost();
        readRefused();
        output();
        verify();
        rewrap();
        rewrapStops();
        dropEpoch();
        delete();
        deleteStops();
        scrub();
        scrubParity();
        scrubBehindTheLast();
        scrubStops();
        damage();
        spoil();
        stopAfter();
        mount();
        file();
        headerCopies();
        block();
        state();
        System.out.println(wrong == 0 ? "all answers are as due" : wrong + " answers are not as due");
        System.exit(wrong == 0 ? 0 : 1);
    }

    // ---- helpers

    private static void due(String what, String want, Pair.Ask ask) {
        String got = Pair.answer(ask);
        if (!got.equals(want)) {
            wrong++;
            System.out.println(what + ": answered " + got + ", due is " + want);
        }
    }

    private static void due(String what, long want, Pair.Ask ask) {
        due(what, Long.toString(want), ask);
    }

    private static void dueDone(String what, String want, Pair.Do call) {
        due(what, want, () -> {
            call.run();
            return 0;
        });
    }

    private static void dueDone(String what, Pair.Do call) {
        dueDone(what, "0", call);
    }

    private static void fill(TapeSealer x, int bytes, int start) {
        for (int k = 0; k < bytes; k++) {
            due("put of a byte", 1, () -> x.put(start, 1) ? 1 : 0);
        }
    }

    /** Four bytes a call, each of them 7 more than the one before it. */
    private static void fillRising(TapeSealer x, int bytes, int start) {
        for (int k = 0; k < bytes; k += 4) {
            int word = 0;
            int n = Math.min(4, bytes - k);
            for (int j = 0; j < n; j++) {
                word = (word << 8) | ((start + 7 * (k + j)) & 255);
            }
            x.put(word, n);
        }
    }

    private static void newEpoch(TapeSealer x) {
        fillRising(x, 32, 100 + x.state(2));
        x.epoch();
    }

    private static TapeSealer withEpoch() {
        TapeSealer x = new TapeSealer();
        newEpoch(x);
        return x;
    }

    /** Byte k of the file is file + 7 k, the lowest 8 bits of it. */
    private static int add(TapeSealer x, int length) {
        int file = x.create(1000 + length);
        int done = 0;
        while (done < length) {
            int part = Math.min(192, length - done);
            fillRising(x, part, file + 7 * done);
            x.append();
            done += part;
        }
        return x.finish();
    }

    private static TapeSealer withFile(int length) {
        TapeSealer x = withEpoch();
        add(x, length);
        return x;
    }

    private static void dueBytes(TapeSealer x, int file, int from, int count) {
        due("read", count, () -> x.read(file, from, count));
        for (int i = 0; i < count; i++) {
            int k = i;
            due("output(" + k + ")", (file + 7 * (from + k)) & 255, () -> x.output(k));
        }
        due("output behind", INDEX, () -> x.output(count));
    }

    // ---- promises

    private static void newObject() {
        TapeSealer x = new TapeSealer();
        for (int what = 0; what < 6; what++) {
            int w = what;
            due("state of a new object", what == 1 ? 6 : 0, () -> x.state(w));
        }
        for (int b = 0; b < 44; b++) {
            int block = b;
            due("block of a new object", 0, () -> x.block(block, block));
        }
        for (int f = 0; f < 4; f++) {
            int file = f;
            due("file of a new object", MISSING, () -> x.file(file, 0));
        }
        due("output of a new object", INDEX, () -> x.output(0));
        due("create in a new object", STATE, () -> x.create(0));
        due("append in a new object", STATE, x::append);
        due("finish in a new object", STATE, x::finish);
        due("mount of a new object", 0, x::mount);
    }

    private static void put() {
        TapeSealer x = withEpoch();
        for (int n : new int[] {0, -1, 5, Integer.MAX_VALUE, Integer.MIN_VALUE}) {
            due("put of n " + n, 0, () -> x.put(1, n) ? 1 : 0);
        }
        due("put 1", 1, () -> x.put(0x11223344, 1) ? 1 : 0);
        due("put 2", 1, () -> x.put(0x11223344, 2) ? 1 : 0);
        due("put 3", 1, () -> x.put(0x11223344, 3) ? 1 : 0);
        due("put 4", 1, () -> x.put(0xF1223344, 4) ? 1 : 0);
        due("bytes in the buffer", 10, () -> x.state(5));
        x.create(1);
        x.append();
        x.finish();
        due("read what was put", 10, () -> x.read(0, 0, 10));
        int[] bytes = {0x44, 0x33, 0x44, 0x22, 0x33, 0x44, 0xF1, 0x22, 0x33, 0x44};
        for (int i = 0; i < 10; i++) {
            int k = i;
            due("byte put", bytes[k], () -> x.output(k));
        }
        fill(x, 189, 5);
        due("put beyond 192", 0, () -> x.put(1, 4) ? 1 : 0);
        due("buffer after a put refused", 189, () -> x.state(5));
        due("put up to 192", 1, () -> x.put(1, 3) ? 1 : 0);
        due("put beyond 192 again", 0, () -> x.put(1, 1) ? 1 : 0);
        due("buffer full", 192, () -> x.state(5));
    }

    private static void epoch() {
        TapeSealer x = new TapeSealer();
        due("epoch of no bytes", STATE, x::epoch);
        fill(x, 31, 9);
        due("epoch of 31 bytes", STATE, x::epoch);
        due("buffer stays", 31, () -> x.state(5));
        fill(x, 2, 9);
        due("epoch of 33 bytes", STATE, x::epoch);
        due("buffer stays", 33, () -> x.state(5));
        due("no epoch yet", 0, () -> x.state(2));

        TapeSealer y = new TapeSealer();
        for (int e = 1; e <= 9; e++) {
            fillRising(y, 32, e);
            due("epoch", e, y::epoch);
            int number = e;
            due("present epoch", number, () -> y.state(2));
            due("buffer is empty then", 0, () -> y.state(5));
        }
        fillRising(y, 32, 10);
        due("tenth epoch", STATE, y::epoch);
        due("buffer with nine epochs", 32, () -> y.state(5));
        due("still nine", 9, () -> y.state(2));

        TapeSealer z = withFile(1);
        z.stopAfter(0);
        dueDone("delete stops", STATE, () -> z.delete(0));
        fillRising(z, 32, 10);
        due("epoch when stopped", STATE, z::epoch);
        due("buffer when stopped", 32, () -> z.state(5));
        z.mount();
        due("epoch after mount", 2, z::epoch);
    }

    private static void create() {
        TapeSealer x = withEpoch();
        for (int f = 0; f < 4; f++) {
            int number = f;
            due("create", number, () -> x.create(-number));
            due("create when one is begun", STATE, () -> x.create(7));
            due("a file begun is no file yet", number, () -> x.state(0));
            due("finish", number, x::finish);
        }
        due("create when there are four", STATE, () -> x.create(7));
        x.delete(2);
        x.delete(1);
        due("create takes the least number", 1, () -> x.create(7));
        x.finish();
        due("then the next", 2, () -> x.create(7));
        x.mount();
        x.spoil(0);
        x.damage(1, 0, 1);
        due("create where both headers are bad", 0, () -> x.create(7));
        x.mount();
        x.stopAfter(0);
        dueDone("delete stops", STATE, () -> x.delete(1));
        due("create when stopped", STATE, () -> x.create(7));
    }

    /** The key and the header are of the epoch that is present when the file is written. */
    private static void createAndEpochs() {
        TapeSealer x = withEpoch();
        x.create(3);
        fillRising(x, 60, 0);
        x.append();
        newEpoch(x);
        dueDone("epoch of the create is dropped", () -> x.dropEpoch(1));
        due("finish in a later epoch", 0, x::finish);
        due("its epoch", 2, () -> x.file(0, 1));
        dueBytes(x, 0, 0, 60);
    }

    private static void append() {
        TapeSealer x = withEpoch();
        fill(x, 3, 1);
        due("append to none", STATE, x::append);
        due("buffer stays", 3, () -> x.state(5));
        x.create(0);
        due("append", 3, x::append);
        due("buffer is empty then", 0, () -> x.state(5));
        due("append of nothing", 3, x::append);
        for (int i = 1; i < 4; i++) {
            int length = 3 + 192 * i;
            fillRising(x, 192, 0);
            due("append", length, x::append);
        }
        fillRising(x, 187, 0);
        due("append up to 766", 766, x::append);
        fill(x, 3, 0);
        due("append up to 769", STATE, x::append);
        due("buffer stays", 3, () -> x.state(5));
        x.finish();
        due("length as before the append refused", 766, () -> x.file(0, 0));
        x.mount();
        x.create(0);
        x.stopAfter(0);
        dueDone("delete stops", STATE, () -> x.delete(0));
        due("append when stopped", STATE, x::append);
        due("buffer stays", 3, () -> x.state(5));
    }

    private static void appendAndGroups() {
        TapeSealer x = withEpoch();
        add(x, 193);
        add(x, 193);
        due("groups free", 2, () -> x.state(1));
        x.delete(0);
        due("groups free, in two parts", 4, () -> x.state(1));
        x.create(0);
        fillRising(x, 192, 0);
        due("one group", 192, x::append);
        fillRising(x, 192, 0);
        due("two groups", 384, x::append);
        fill(x, 1, 0);
        due("three groups do not follow each other", STATE, x::append);
        due("buffer stays", 1, () -> x.state(5));
        due("finish of what was there", 0, x::finish);
        due("its length", 384, () -> x.file(0, 0));
        x.create(0);
        due("768 bytes are not for two groups", 1, x::append);

        TapeSealer y = withEpoch();
        add(y, 768);
        due("file of four groups", 4, () -> y.file(0, 3));
        dueBytes(y, 0, 760, 8);
        y.damage(0, 20, 1);
        y.damage(1, 20, 1);
        y.create(1);
        fillRising(y, 192, 0);
        y.append();
        fillRising(y, 192, 0);
        y.append();
        fill(y, 1, 0);
        y.damage(1, 20, 1);
        due("groups that are a file's again", STATE, y::append);
        y.damage(1, 20, 1);
        due("and free again", 385, y::append);
    }

    private static void finish() {
        TapeSealer x = withEpoch();
        due("finish of none", STATE, x::finish);
        x.create(5);
        due("finish of a file of no bytes", 0, x::finish);
        due("writes of an empty file", 2, () -> x.state(3));
        due("its groups", 0, () -> x.file(0, 3));
        due("its first group", 0, () -> x.file(0, 2));
        due("groups free", 6, () -> x.state(1));
        due("verify it", 0, () -> x.verify(0));
        due("read it", 0, () -> x.read(0, 0, 9));
        due("finish again", STATE, x::finish);
        due("finish of 1 byte", 1, () -> add(x, 1));
        due("writes", 10, () -> x.state(3));
        due("finish of 192 bytes", 2, () -> add(x, 192));
        due("writes", 18, () -> x.state(3));
        due("finish of 193 bytes", 3, () -> add(x, 193));
        due("writes", 32, () -> x.state(3));
        due("first group", 2, () -> x.file(3, 2));
        due("groups", 2, () -> x.file(3, 3));
    }

    private static void finishPlaces() {
        TapeSealer x = withEpoch();
        add(x, 1);
        add(x, 200);
        add(x, 1);
        x.delete(0);
        due("two groups go behind", 0, () -> add(x, 200));
        due("first group", 4, () -> x.file(0, 2));
        due("one group goes to the first gap", 3, () -> add(x, 100));
        due("first group", 0, () -> x.file(3, 2));
        dueBytes(x, 0, 190, 10);
        dueBytes(x, 3, 0, 100);
    }

    private static void finishStops() {
        for (int n = 0; n <= 8; n++) {
            int writes = n;
            TapeSealer x = withEpoch();
            x.create(8);
            fillRising(x, 150, 0);
            x.append();
            x.stopAfter(writes);
            due("finish that stops behind " + writes, writes < 8 ? STATE : "0", x::finish);
            due("stopped", writes < 8 ? 1 : 0, () -> x.state(4));
            due("writes done", writes, () -> x.state(3));
            due("a header is enough", writes < 7 ? 0 : 1, () -> x.state(0));
            for (int i = 0; i < 6; i++) {
                int j = i;
                boolean isWritten = j < writes;
                due("block written or not", isWritten ? "1" : "0",
                        () -> x.block(8 + j, 0) + x.block(8 + j, 1) + x.block(8 + j, 2) > 0 ? 1 : 0);
            }
            due("finish again", STATE, x::finish);
            due("mount", writes < 7 ? 0 : 1, x::mount);
            due("it is begun no more", STATE, x::finish);
            due("a new one may begin", writes < 7 ? 0 : 1, () -> x.create(1));
        }
    }

    /** Groups that were free for append() may be a file's again when finish() comes. */
    private static void finishWithoutGroups() {
        TapeSealer x = withEpoch();
        add(x, 768);
        add(x, 1);
        x.damage(0, 20, 1);
        x.damage(1, 20, 1);
        x.create(1);
        fillRising(x, 192, 0);
        x.append();
        fillRising(x, 192, 0);
        due("groups are free", 384, x::append);
        int before = x.state(3);
        x.damage(1, 20, 1);
        due("no groups any more", STATE, x::finish);
        due("nothing written", before, () -> x.state(3));
        due("not stopped", 0, () -> x.state(4));
        due("begun no more", STATE, x::append);
        due("a new one may begin", 2, () -> x.create(1));
    }

    private static void finishedBlocks() {
        int[][] cases = {{305419896, 0}, {-1, 1}, {7, 48}, {0, 49}, {0x80FF01FE, 220}, {99, 700}};
        for (int[] each : cases) {
            for (int part = 0; part < 44; part += 4) {
                Pair pair = new Pair();
                fillBoth(pair, 32);
                pair.epoch();
                pair.create(each[0]);
                for (int left = each[1]; left > 0; left -= 192) {
                    fillBoth(pair, Math.min(192, left));
                    pair.append();
                }
                pair.finish();
                for (int i = 0; i < 256; i++) {
                    pair.block(part + i / 64, i % 64);
                }
                wrong += pair.wrong;
            }
        }
    }

    private static void fillBoth(Pair pair, int bytes) {
        for (int left = bytes; left > 0; left -= 4) {
            pair.put(0x9E3779B9 * (left + 1), Math.min(4, left));
        }
    }

    private static void read() {
        TapeSealer x = withFile(220);
        dueBytes(x, 0, 0, 10);
        dueBytes(x, 0, 40, 120);
        dueBytes(x, 0, 190, 4);
        due("read up to the end", 5, () -> x.read(0, 215, 99));
        due("its last byte", (7 * 219) & 255, () -> x.output(4));
        due("none behind it", INDEX, () -> x.output(5));
        due("read the most", 220, () -> x.read(0, 0, Integer.MAX_VALUE));
        due("its last byte", (7 * 219) & 255, () -> x.output(219));
        due("read at the end", 0, () -> x.read(0, 220, 5));
        due("nothing was read", INDEX, () -> x.output(0));
        due("read no bytes", 0, () -> x.read(0, 3, 0));
        due("writes as before", 14, () -> x.state(3));
    }

    private static void readRecovers() {
        TapeSealer x = withFile(300);
        x.spoil(9);
        for (int i = 0; i < 64; i++) {
            x.damage(9, i, 255);
        }
        dueBytes(x, 0, 48, 48);
        x.spoil(12);
        dueBytes(x, 0, 48, 48);
        x.damage(13, 20, 4);
        due("one bad, no parity right", LOST, () -> x.read(0, 50, 1));
        due("nothing is written by read", -1, () -> x.block(9, 0));

        TapeSealer y = withFile(300);
        y.damage(9, 0, 128);
        y.damage(12, 5, 1);
        dueBytes(y, 0, 50, 20);
        y.damage(12, 5, 1);
        y.spoil(13);
        dueBytes(y, 0, 50, 20);

        for (int a = 0; a < 4; a++) {
            for (int b = a + 1; b < 4; b++) {
                TapeSealer z = withFile(192);
                z.damage(8 + a, 63, 1);
                z.spoil(8 + b);
                for (int i = 0; i < 64; i++) {
                    z.damage(8 + a, i, 255 - i);
                    z.damage(8 + b, i, 1 + i);
                }
                dueBytes(z, 0, 0, 192);
            }
        }
        TapeSealer w = withFile(60);
        w.spoil(8);
        w.spoil(11);
        dueBytes(w, 0, 0, 60);
    }

    private static void readLost() {
        TapeSealer x = withFile(240);
        x.damage(8, 1, 1);
        x.damage(9, 1, 1);
        x.spoil(12);
        due("two bad, one parity", LOST, () -> x.read(0, 0, 1));
        dueBytes(x, 0, 96, 144);
        x.damage(9, 1, 1);
        due("one bad, the other parity", 1, () -> x.read(0, 0, 1));

        TapeSealer y = withFile(240);
        y.damage(8, 1, 1);
        y.damage(9, 1, 1);
        y.damage(13, 60, 1);
        due("two bad, a parity that is wrong", LOST, () -> y.read(0, 0, 1));

        TapeSealer z = withFile(60);
        z.spoil(8);
        z.damage(10, 0, 1);
        z.damage(11, 0, 1);
        due("three bad, two of them behind the last", LOST, () -> z.read(0, 0, 1));
        dueBytes(z, 0, 48, 12);
    }

    private static void readRefused() {
        TapeSealer x = withFile(100);
        due("read", 2, () -> x.read(0, 1, 2));
        for (int file : new int[] {-1, 1, 3, 4, Integer.MAX_VALUE, Integer.MIN_VALUE}) {
            due("read of no file", MISSING, () -> x.read(file, -1, -1));
        }
        for (int from : new int[] {-1, 101, Integer.MAX_VALUE, Integer.MIN_VALUE}) {
            due("read from " + from, ARGUMENT, () -> x.read(0, from, 1));
        }
        due("read of len -1", ARGUMENT, () -> x.read(0, 0, -1));
        due("read of the least len", ARGUMENT, () -> x.read(0, 100, Integer.MIN_VALUE));
        x.spoil(8);
        x.spoil(9);
        x.spoil(10);
        due("read what is lost", LOST, () -> x.read(0, 0, 5));
        x.stopAfter(0);
        dueDone("delete stops", STATE, () -> x.delete(0));
        due("read when stopped", STATE, () -> x.read(0, 0, 5));
        due("read when stopped, wrong from", ARGUMENT, () -> x.read(0, 101, 5));
        due("read when stopped, no file", MISSING, () -> x.read(1, 0, 5));
        due("what throws leaves what was told", 7, () -> x.output(0));
        due("what throws leaves what was told", 14, () -> x.output(1));
        due("and no more", INDEX, () -> x.output(2));
    }

    private static void output() {
        TapeSealer x = withFile(60);
        due("output before a read", INDEX, () -> x.output(0));
        x.read(0, 10, 50);
        due("output(0)", 70, () -> x.output(0));
        due("output(49)", (7 * 59) & 255, () -> x.output(49));
        for (int i : new int[] {-1, 50, 64, Integer.MAX_VALUE, Integer.MIN_VALUE}) {
            due("output(" + i + ")", INDEX, () -> x.output(i));
        }
        x.delete(0);
        x.mount();
        due("output stays", 70, () -> x.output(0));
        add(x, 4);
        x.read(0, 1, 1);
        due("output of the last read", 7, () -> x.output(0));
        due("output of the last read alone", INDEX, () -> x.output(1));
    }

    private static void verify() {
        TapeSealer x = withFile(300);
        due("verify", 0, () -> x.verify(0));
        for (int file : new int[] {-1, 1, 4, Integer.MIN_VALUE}) {
            due("verify of no file", MISSING, () -> x.verify(file));
        }
        x.damage(12, 0, 1);
        x.spoil(13);
        x.damage(17, 0, 1);
        due("parity and what is behind the last are no segments", 0, () -> x.verify(0));
        x.damage(16, 63, 1);
        due("last segment", 7, () -> x.verify(0));
        x.spoil(14);
        due("first segment of the second group", 5, () -> x.verify(0));
        x.damage(11, 0, 32);
        due("fourth segment", 4, () -> x.verify(0));
        x.damage(8, 47, 1);
        x.stopAfter(0);
        dueDone("delete stops", STATE, () -> x.delete(0));
        due("verify when stopped", 1, () -> x.verify(0));
        due("verify when stopped, no file", MISSING, () -> x.verify(1));
    }

    private static void rewrap() {
        TapeSealer x = withFile(100);
        due("rewrap in the same epoch", 0, () -> x.rewrap(0) ? 1 : 0);
        due("nothing written", 8, () -> x.state(3));
        newEpoch(x);
        due("epoch before", 1, () -> x.file(0, 1));
        due("rewrap", 1, () -> x.rewrap(0) ? 1 : 0);
        due("both blocks written", 10, () -> x.state(3));
        due("epoch then", 2, () -> x.file(0, 1));
        due("header of block 0", 2, () -> x.block(0, 1));
        due("header of block 1", 2, () -> x.block(1, 1));
        due("rewrap again", 0, () -> x.rewrap(0) ? 1 : 0);
        dueBytes(x, 0, 0, 100);
        due("segments stay", 0, () -> x.verify(0));
        due("length stays", 100, () -> x.file(0, 0));
        for (int file : new int[] {-1, 1, 4}) {
            due("rewrap of no file", MISSING, () -> x.rewrap(file) ? 1 : 0);
        }
        newEpoch(x);
        x.spoil(0);
        due("rewrap by the second header", 1, () -> x.rewrap(0) ? 1 : 0);
        due("the first is readable again", 1, () -> x.block(0, 0));
    }

    private static void rewrapStops() {
        TapeSealer x = withFile(100);
        newEpoch(x);
        x.stopAfter(0);
        due("rewrap that stops at once", STATE, () -> x.rewrap(0) ? 1 : 0);
        due("epoch as before", 1, () -> x.file(0, 1));
        x.mount();
        due("epoch as before after mount", 1, () -> x.file(0, 1));
        x.stopAfter(1);
        due("rewrap that stops between", STATE, () -> x.rewrap(0) ? 1 : 0);
        due("the first header counts", 2, () -> x.file(0, 1));
        due("the second is the old one", 1, () -> x.block(1, 1));
        due("rewrap when stopped", STATE, () -> x.rewrap(0) ? 1 : 0);
        due("rewrap when stopped, no file", MISSING, () -> x.rewrap(1) ? 1 : 0);
        x.mount();
        due("rewrap is not needed", 0, () -> x.rewrap(0) ? 1 : 0);
        x.damage(0, 63, 1);
        due("the old header counts", 1, () -> x.file(0, 1));
        dueBytes(x, 0, 0, 50);
        x.damage(0, 63, 1);
        dueDone("the old epoch is not used", () -> x.dropEpoch(1));
        x.damage(0, 63, 1);
        due("no header is good then", MISSING, () -> x.file(0, 1));
    }

    private static void dropEpoch() {
        TapeSealer x = new TapeSealer();
        for (int e : new int[] {-1, 0, 1, Integer.MAX_VALUE, Integer.MIN_VALUE}) {
            dueDone("dropEpoch(" + e + ") when there is none", ARGUMENT, () -> x.dropEpoch(e));
        }
        newEpoch(x);
        dueDone("drop the present epoch", ARGUMENT, () -> x.dropEpoch(1));
        add(x, 10);
        newEpoch(x);
        newEpoch(x);
        dueDone("drop an epoch that is used", STATE, () -> x.dropEpoch(1));
        dueDone("drop an epoch to come", ARGUMENT, () -> x.dropEpoch(4));
        dueDone("drop an epoch that is not used", () -> x.dropEpoch(2));
        dueDone("drop it again", ARGUMENT, () -> x.dropEpoch(2));
        due("present epoch", 3, () -> x.state(2));
        x.stopAfter(0);
        due("rewrap stops", STATE, () -> x.rewrap(0) ? 1 : 0);
        dueDone("drop when stopped", STATE, () -> x.dropEpoch(1));
        dueDone("drop when stopped, no epoch", ARGUMENT, () -> x.dropEpoch(2));
        x.mount();
        x.spoil(0);
        x.damage(1, 1, 1);
        dueDone("drop when no header is good", () -> x.dropEpoch(1));
        x.damage(1, 1, 1);
        due("a header of an epoch dropped", MISSING, () -> x.file(0, 0));
        due("files then", 0, () -> x.state(0));
        due("its groups are free", 6, () -> x.state(1));
        newEpoch(x);
        due("the next number", 4, () -> x.state(2));
    }

    private static void delete() {
        TapeSealer x = withEpoch();
        add(x, 200);
        add(x, 10);
        for (int file : new int[] {-1, 2, 4, Integer.MAX_VALUE}) {
            dueDone("delete of no file", MISSING, () -> x.delete(file));
        }
        int before = x.state(3);
        dueDone("delete", () -> x.delete(0));
        due("writes", before + 2, () -> x.state(3));
        for (int i = 0; i < 64; i++) {
            int k = i;
            due("header's blocks are 0", 0, () -> x.block(0, k) + x.block(1, k));
        }
        due("files", 1, () -> x.state(0));
        due("groups free", 5, () -> x.state(1));
        dueDone("delete again", MISSING, () -> x.delete(0));
        dueBytes(x, 1, 0, 10);
        x.spoil(2);
        dueDone("delete where a header is not readable", () -> x.delete(1));
        due("it is readable then", 0, () -> x.block(2, 0));
    }

    private static void deleteStops() {
        TapeSealer x = withFile(10);
        x.stopAfter(1);
        dueDone("delete that stops between", STATE, () -> x.delete(0));
        due("the second header counts", 10, () -> x.file(0, 0));
        dueDone("delete when stopped", STATE, () -> x.delete(0));
        dueDone("delete when stopped, no file", MISSING, () -> x.delete(1));
        due("mount", 1, x::mount);
        dueBytes(x, 0, 0, 10);
        x.stopAfter(2);
        dueDone("delete with two writes", () -> x.delete(0));
        due("not stopped", 0, () -> x.state(4));
        due("mount", 0, x::mount);
    }

    private static void scrub() {
        TapeSealer x = withFile(220);
        for (int group : new int[] {-1, 6, Integer.MAX_VALUE, Integer.MIN_VALUE}) {
            due("scrub of no group", ARGUMENT, () -> x.scrub(group));
        }
        due("scrub of what is right", 0, () -> x.scrub(0));
        due("scrub of a group that no file has", -1, () -> x.scrub(2));
        int byte0 = x.block(9, 0);
        x.damage(9, 0, 255);
        due("scrub of one bad", 1, () -> x.scrub(0));
        due("it is as it was", byte0, () -> x.block(9, 0));
        x.spoil(8);
        x.spoil(11);
        due("scrub of two bad", 2, () -> x.scrub(0));
        due("verify", 0, () -> x.verify(0));
        due("writes", 17, () -> x.state(3));
        x.spoil(14);
        x.spoil(18);
        due("one bad and parity 0", 2, () -> x.scrub(1));
        x.damage(14, 3, 3);
        x.damage(18, 3, 3);
        due("one bad and a wrong parity 0", 2, () -> x.scrub(1));
        x.spoil(14);
        x.spoil(19);
        due("one bad and parity 1", 2, () -> x.scrub(1));
        dueBytes(x, 0, 192, 28);
        x.spoil(8);
        x.spoil(9);
        x.spoil(12);
        due("two bad and parity 0", -1, () -> x.scrub(0));
        due("nothing is written then", 23, () -> x.state(3));
        due("nothing is written then", -1, () -> x.block(12, 0));
        x.delete(0);
        due("no file has it any more", -1, () -> x.scrub(1));
    }

    private static void scrubParity() {
        TapeSealer x = withFile(192);
        int first = x.block(12, 7);
        int second = x.block(13, 7);
        x.damage(12, 7, 16);
        due("parity 0 is wrong", 1, () -> x.scrub(0));
        due("parity 0", first, () -> x.block(12, 7));
        x.damage(13, 7, 16);
        due("parity 1 is wrong", 1, () -> x.scrub(0));
        due("parity 1", second, () -> x.block(13, 7));
        x.spoil(12);
        x.spoil(13);
        due("none is readable", 2, () -> x.scrub(0));
        due("parity 0", first, () -> x.block(12, 7));
        due("parity 1", second, () -> x.block(13, 7));
        x.damage(8, 0, 1);
        x.damage(9, 0, 1);
        x.damage(10, 0, 1);
        x.spoil(13);
        due("three bad", -1, () -> x.scrub(0));
        due("parity is not written", -1, () -> x.block(13, 7));
    }

    private static void scrubBehindTheLast() {
        TapeSealer x = withFile(50);
        x.damage(10, 30, 5);
        due("a block behind the last that is not 0", 1, () -> x.scrub(0));
        due("it is 0 then", 0, () -> x.block(10, 30));
        x.spoil(11);
        x.spoil(8);
        due("one that is not readable, and a segment", 2, () -> x.scrub(0));
        due("it is 0 then", 0, () -> x.block(11, 30));
        x.spoil(11);
        x.spoil(12);
        x.damage(13, 30, 5);
        due("what comes is not 0", -1, () -> x.scrub(0));
    }

    private static void scrubStops() {
        TapeSealer x = withFile(192);
        x.spoil(8);
        x.spoil(10);
        x.stopAfter(1);
        due("scrub that stops between", STATE, () -> x.scrub(0));
        due("the first one is written", "1", () -> x.block(8, 0) >= 0 ? 1 : 0);
        due("the other is not", -1, () -> x.block(10, 0));
        due("scrub when stopped", STATE, () -> x.scrub(0));
        due("scrub when stopped, a free group", STATE, () -> x.scrub(3));
        due("scrub when stopped, no group", ARGUMENT, () -> x.scrub(6));
        x.mount();
        due("scrub of the rest", 1, () -> x.scrub(0));
        x.stopAfter(0);
        due("scrub that has nothing to write", 0, () -> x.scrub(0));
        due("is not stopped by that", 0, () -> x.state(4));
        x.spoil(13);
        x.spoil(9);
        x.stopAfter(1);
        due("scrub that stops before parity", STATE, () -> x.scrub(0));
        due("parity is written last", -1, () -> x.block(13, 0));
        due("verify", 0, () -> x.verify(0));
    }

    private static void damage() {
        TapeSealer x = new TapeSealer();
        int[][] refused = {{-1, 0, 1}, {44, 0, 1}, {0, -1, 1}, {0, 64, 1}, {0, 0, -1}, {0, 0, 256},
            {Integer.MIN_VALUE, 0, 0}, {0, Integer.MAX_VALUE, 0}, {0, 0, Integer.MIN_VALUE}};
        for (int[] each : refused) {
            dueDone("damage" + Arrays.toString(each), ARGUMENT,
                    () -> x.damage(each[0], each[1], each[2]));
        }
        dueDone("damage", () -> x.damage(43, 63, 255));
        due("bits turned", 255, () -> x.block(43, 63));
        dueDone("damage", () -> x.damage(43, 63, 0x5A));
        due("bits turned", 0xA5, () -> x.block(43, 63));
        dueDone("damage of no bits", () -> x.damage(43, 63, 0));
        due("no bits turned", 0xA5, () -> x.block(43, 63));
        due("the byte before", 0, () -> x.block(43, 62));
        due("damage is no write", 0, () -> x.state(3));
        x.spoil(43);
        dueDone("damage of what is not readable", () -> x.damage(43, 63, 1));
        due("it is not readable still", -1, () -> x.block(43, 63));
    }

    private static void spoil() {
        TapeSealer x = withFile(10);
        for (int block : new int[] {-1, 44, Integer.MAX_VALUE, Integer.MIN_VALUE}) {
            dueDone("spoil(" + block + ")", ARGUMENT, () -> x.spoil(block));
        }
        dueDone("spoil", () -> x.spoil(43));
        dueDone("spoil", () -> x.spoil(8));
        due("not readable", -1, () -> x.block(43, 0));
        due("not readable", -1, () -> x.block(8, 63));
        due("the next one is", 0, () -> x.block(42, 0));
        x.mount();
        due("mount is no writing", -1, () -> x.block(8, 0));
        x.scrub(0);
        due("readable when written", "1", () -> x.block(8, 0) >= 0 ? 1 : 0);
    }

    private static void stopAfter() {
        TapeSealer x = withFile(10);
        for (int n : new int[] {101, 102, Integer.MAX_VALUE}) {
            dueDone("stopAfter(" + n + ")", ARGUMENT, () -> x.stopAfter(n));
        }
        dueDone("stopAfter(0)", () -> x.stopAfter(0));
        due("not stopped before a write", 0, () -> x.state(4));
        dueDone("stopAfter(-1)", () -> x.stopAfter(-1));
        due("a file is written", 1, () -> add(x, 1));
        dueDone("stopAfter(0)", () -> x.stopAfter(0));
        dueDone("the least", () -> x.stopAfter(Integer.MIN_VALUE));
        due("a file is written", 2, () -> add(x, 1));
        dueDone("stopAfter(100)", () -> x.stopAfter(100));
        dueDone("a refused one", ARGUMENT, () -> x.stopAfter(101));
        dueDone("stopAfter(3)", () -> x.stopAfter(3));
        dueDone("two writes", () -> x.delete(2));
        dueDone("one write", STATE, () -> x.delete(1));
        due("stopped", 1, () -> x.state(4));
        dueDone("stopAfter(-1) when stopped", () -> x.stopAfter(-1));
        due("stopped until mount", 1, () -> x.state(4));
        dueDone("stopAfter(5) when stopped", () -> x.stopAfter(5));
        dueDone("delete when stopped", STATE, () -> x.delete(1));
        due("mount", 2, x::mount);
        dueDone("delete after mount", () -> x.delete(1));
        for (int i = 0; i < 100; i++) {
            if (i == 0) {
                x.stopAfter(100);
            }
            x.spoil(13);
            due("one of a hundred writes", 1, () -> x.scrub(0));
        }
        x.spoil(13);
        due("the write behind them", STATE, () -> x.scrub(0));
    }

    private static void mount() {
        TapeSealer x = withFile(10);
        x.create(4);
        fill(x, 5, 1);
        due("mount", 1, x::mount);
        due("the buffer stays", 5, () -> x.state(5));
        due("the file begun is gone", STATE, x::append);
        due("a new one begins", 1, () -> x.create(4));
        due("with the buffer", 5, x::append);
        x.finish();
        x.stopAfter(0);
        due("mount when writing would stop", 2, x::mount);
        dueDone("it does not stop then", () -> x.delete(0));
        due("mount", 1, x::mount);
        x.stopAfter(0);
        dueDone("it stops", STATE, () -> x.delete(1));
        due("stopped", 1, () -> x.state(4));
        due("mount when stopped", 1, x::mount);
        due("not stopped", 0, () -> x.state(4));
        dueDone("it does not stop again", () -> x.delete(1));
        due("mount", 0, x::mount);
        due("the epoch stays", 1, () -> x.state(2));
        due("writes stay counted", 20, () -> x.state(3));
    }

    private static void file() {
        TapeSealer x = withEpoch();
        add(x, 0);
        add(x, 600);
        newEpoch(x);
        add(x, 300);
        int[][] dues = {{0, 1, 0, 0}, {600, 1, 0, 4}, {300, 2, 4, 2}};
        for (int f = 0; f < 3; f++) {
            for (int w = 0; w < 4; w++) {
                int file = f;
                int what = w;
                due("file(" + f + ", " + w + ")", dues[f][w], () -> x.file(file, what));
            }
        }
        for (int what : new int[] {-1, 4, Integer.MAX_VALUE, Integer.MIN_VALUE}) {
            due("file of no what", ARGUMENT, () -> x.file(0, what));
            due("file of no what, no file", MISSING, () -> x.file(3, what));
        }
        for (int file : new int[] {-1, 3, 4, Integer.MAX_VALUE, Integer.MIN_VALUE}) {
            due("no file", MISSING, () -> x.file(file, 0));
        }
    }

    private static void headerCopies() {
        for (int i = 0; i < 64; i++) {
            TapeSealer x = withFile(60);
            x.damage(0, i, 1);
            due("the second header counts", 60, () -> x.file(0, 0));
            x.damage(1, i, 128);
            due("no header is good", MISSING, () -> x.file(0, 0));
            due("files", 0, () -> x.state(0));
            due("groups free", 6, () -> x.state(1));
            x.damage(0, i, 1);
            due("the first header counts", 60, () -> x.file(0, 0));
            dueBytes(x, 0, 0, 60);
        }
    }

    private static void block() {
        TapeSealer x = withFile(220);
        int[] header = {1, 1, 0, 220, 0, 2, 0, 0, 4, 196, 0, 0, 0, 0, 0, 0};
        for (int i = 0; i < 16; i++) {
            int k = i;
            due("header's byte", header[k], () -> x.block(0, k));
            due("header's byte", header[k], () -> x.block(1, k));
        }
        int[][] refused = {{-1, 0}, {44, 0}, {0, -1}, {0, 64}, {Integer.MAX_VALUE, 0},
            {0, Integer.MIN_VALUE}};
        for (int[] each : refused) {
            due("block" + Arrays.toString(each), ARGUMENT, () -> x.block(each[0], each[1]));
        }
        x.spoil(0);
        due("not readable", -1, () -> x.block(0, 0));
        due("no such byte of what is not readable", ARGUMENT, () -> x.block(0, 64));
        due("readable", 1, () -> x.block(1, 0));
    }

    private static void state() {
        TapeSealer x = withEpoch();
        add(x, 0);
        add(x, 400);
        fill(x, 7, 1);
        int[] dues = {2, 3, 1, 22, 0, 7};
        for (int what = 0; what < 6; what++) {
            int w = what;
            due("state(" + w + ")", dues[w], () -> x.state(w));
        }
        for (int what : new int[] {-1, 6, Integer.MAX_VALUE, Integer.MIN_VALUE}) {
            due("state(" + what + ")", ARGUMENT, () -> x.state(what));
        }
        x.stopAfter(1);
        dueDone("delete stops", STATE, () -> x.delete(0));
        due("stopped", 1, () -> x.state(4));
        due("writes", 23, () -> x.state(3));
        x.spoil(2);
        due("a file with one header", 2, () -> x.state(0));
        x.spoil(3);
        due("a file with none", 1, () -> x.state(0));
        due("groups free", 6, () -> x.state(1));
    }
}
