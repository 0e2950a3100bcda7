/** The edges of promises 14 to 20; above each test stands the sentence that it is for. */
public final class CartridgeEdgesTest {
    private CartridgeEdgesTest() {
    }

    public static void main(String[] args) {
        damageUpToTheLastByte();
        damageOfNoByte();
        damageOfNoMask();
        damageIsNoWrite();
        damageOfWhatIsNotReadable();
        spoilUpToTheLastBlock();
        spoilOfNoBlock();
        spoiledUntilWritten();
        stopAfterUpTo100();
        stopAfterAbove100();
        stopAfterBelow0();
        stopAfter0();
        stopAfterToldAgain();
        stopAfterWhenStopped();
        mountWhenStopped();
        mountBeforeItStops();
        mountWithAFileBegun();
        mountCountsFiles();
        fileOfEachWhat();
        fileOfNoWhat();
        fileOfNoFile();
        fileWithoutGroups();
        blockUpToTheLastByte();
        blockOfNoByte();
        blockThatIsNotReadable();
        stateOfEachWhat();
        stateOfNoWhat();
        stateOfAFullCartridge();
        stateOfWrites();
        Edges.end();
    }

    private static void withFiles(Pair x) {
        Edges.files(60, 0).on(x);
        Edges.begin(x, 4, 10);
        Edges.fill(x, 3, 1);
    }

    // ---- promise 14

    /** "Bits of a byte of a block are turned." */
    private static void damageUpToTheLastByte() {
        int[][] places = {{0, 0}, {0, 63}, {7, 63}, {8, 0}, {43, 0}, {43, 63}};
        for (int[] at : places) {
            Pair x = Edges.start();
            Edges.due("all bits", 0, x.damage(at[0], at[1], 255));
            Edges.due("byte", 255, x.block(at[0], at[1]));
            Edges.due("no bits", 0, x.damage(at[0], at[1], 0));
            Edges.due("byte", 255, x.block(at[0], at[1]));
            Edges.due("the lowest bit", 0, x.damage(at[0], at[1], 1));
            Edges.due("byte", 254, x.block(at[0], at[1]));
            Edges.due("the highest bit", 0, x.damage(at[0], at[1], 128));
            Edges.due("byte", 126, x.block(at[0], at[1]));
            for (int i = 0; i < 64; i++) {
                Edges.due("bytes beside it", i == at[1] ? 126 : 0, x.block(at[0], i));
            }
            for (int b = 0; b < 44; b++) {
                Edges.due("blocks beside it", b == at[0] ? 126 : 0, x.block(b, at[1]));
            }
        }
    }

    /** "IllegalArgumentException if there is no such block or byte" */
    private static void damageOfNoByte() {
        int[][] places = {{-1, 0}, {44, 0}, {0, -1}, {0, 64}, {43, 64}, {-1, 63}, {44, 64}, {1, 128},
            {Edges.LEAST, 0}, {Edges.MOST, 0}, {0, Edges.LEAST}, {0, Edges.MOST}};
        for (int[] at : places) {
            Edges.refused("damage of " + at[0] + ", " + at[1], Edges.ARGUMENT,
                    CartridgeEdgesTest::withFiles, x -> x.damage(at[0], at[1], 1));
        }
    }

    /** "IllegalArgumentException if .. mask is not 0 .. 255." */
    private static void damageOfNoMask() {
        for (int mask : new int[] {-1, 256, 257, 511, Edges.LEAST, Edges.MOST}) {
            Edges.refused("damage by " + mask, Edges.ARGUMENT, CartridgeEdgesTest::withFiles,
                    x -> x.damage(8, 5, mask));
        }
        Edges.refused("damage by no bits", "0", CartridgeEdgesTest::withFiles,
                x -> x.damage(8, 5, 0));
    }

    /** It is no write: it is not counted, and neither stops nor is stopped. */
    private static void damageIsNoWrite() {
        Pair x = Edges.start(Edges.files(60));
        x.stopAfter(0);
        Edges.due("damage with no write left", 0, x.damage(20, 0, 9));
        Edges.due("byte", 9, x.block(20, 0));
        Edges.due("writes", 8, x.state(3));
        Edges.due("not stopped", 0, x.state(4));
        Edges.stop(x, 0);
        Edges.due("damage when stopped", 0, x.damage(20, 0, 6));
        Edges.due("byte", 15, x.block(20, 0));
        Edges.due("damage of a header when stopped", 0, x.damage(0, 0, 1));
        Edges.due("damage of the other", 0, x.damage(1, 63, 1));
        Edges.due("no file", Edges.MISSING, x.file(0, 0));
        Edges.due("damage of it again", 0, x.damage(1, 63, 1));
        Edges.due("the file is back", 60, x.file(0, 0));
    }

    /** Terms: "A written block is readable.": what is damaged is not written. */
    private static void damageOfWhatIsNotReadable() {
        Pair x = Edges.start(Edges.files(60));
        x.spoil(8);
        Edges.due("damage", 0, x.damage(8, 0, 255));
        Edges.due("not readable", -1, x.block(8, 0));
        Edges.due("verify", 1, x.verify(0));
        Edges.due("damage back", 0, x.damage(8, 0, 255));
        Edges.due("bad still", 1, x.verify(0));
        Edges.dueBytes(x, 0, 0, 60);
        x.spoil(0);
        x.damage(0, 3, 0);
        x.spoil(1);
        Edges.due("no header is readable", Edges.MISSING, x.file(0, 0));
    }

    // ---- promise 15

    /** "A block is not readable until it is written." */
    private static void spoilUpToTheLastBlock() {
        for (int block : new int[] {0, 7, 8, 43}) {
            Pair x = Edges.start();
            Edges.due("spoil", 0, x.spoil(block));
            for (int i = 0; i < 64; i++) {
                Edges.due("byte of it", -1, x.block(block, i));
            }
            for (int b = 0; b < 44; b++) {
                Edges.due("blocks beside it", b == block ? -1 : 0, x.block(b, 0));
            }
            Edges.due("spoil again", 0, x.spoil(block));
            Edges.due("not readable", -1, x.block(block, 0));
            Edges.due("writes", 0, x.state(3));
        }
    }

    /** "IllegalArgumentException if there is no such block." */
    private static void spoilOfNoBlock() {
        for (int block : new int[] {-1, 44, 45, Edges.LEAST, Edges.MOST}) {
            Edges.refused("spoil of " + block, Edges.ARGUMENT, CartridgeEdgesTest::withFiles,
                    x -> x.spoil(block));
        }
    }

    /** "until it is written": by finish, rewrap, delete and scrub, and by nothing else. */
    private static void spoiledUntilWritten() {
        Pair x = Edges.start(Edges.files());
        for (int block : new int[] {0, 1, 8, 11, 12, 13}) {
            x.spoil(block);
        }
        Edges.add(x, 60);
        for (int block : new int[] {0, 1, 8, 11, 12, 13}) {
            Edges.due("written by finish", !x.block(block, 0).equals("-1"));
        }
        Edges.epoch(x, 2);
        x.spoil(0);
        x.rewrap(0);
        Edges.due("written by rewrap", 1, x.block(0, 0));
        x.spoil(9);
        x.read(0, 0, 60);
        x.verify(0);
        x.mount();
        Edges.due("neither by read nor by mount", -1, x.block(9, 0));
        x.scrub(0);
        Edges.due("written by scrub", !x.block(9, 0).equals("-1"));
        x.spoil(1);
        x.delete(0);
        Edges.due("written by delete", 0, x.block(1, 0));
    }

    // ---- promise 16

    /** "Writing stops behind so many more writes (0 .. 100": each is done, the next one is not. */
    private static void stopAfterUpTo100() {
        for (int writes : new int[] {1, 2, 99, 100}) {
            Pair x = Edges.start(Edges.files(60));
            Edges.due("stopAfter", 0, x.stopAfter(writes));
            for (int i = 0; i < writes; i++) {
                x.spoil(13);
                Edges.due("a write that is done", 1, x.scrub(0));
            }
            Edges.due("writes", 8 + writes, x.state(3));
            Edges.due("not stopped", 0, x.state(4));
            x.spoil(13);
            Edges.due("the next one", Edges.STATE, x.scrub(0));
            Edges.due("stopped", 1, x.state(4));
            Edges.due("not done", -1, x.block(13, 0));
            Edges.due("writes", 8 + writes, x.state(3));
        }
    }

    /** "IllegalArgumentException above 100." */
    private static void stopAfterAbove100() {
        for (int writes : new int[] {101, 102, 256, Edges.MOST}) {
            Edges.refused("stopAfter " + writes, Edges.ARGUMENT, CartridgeEdgesTest::withFiles,
                    x -> x.stopAfter(writes));
            Edges.refused("stopAfter " + writes + " behind 3", Edges.ARGUMENT, x -> {
                withFiles(x);
                x.stopAfter(3);
            }, x -> x.stopAfter(writes));
            Edges.refused("stopAfter " + writes + " when stopped", Edges.ARGUMENT, x -> {
                withFiles(x);
                Edges.stop(x, 0);
            }, x -> x.stopAfter(writes));
        }
    }

    /** "below 0: not": what was told before is told no more. */
    private static void stopAfterBelow0() {
        for (int writes : new int[] {-1, -2, -100, Edges.LEAST}) {
            Pair x = Edges.start(Edges.files(60, 0));
            x.stopAfter(1);
            Edges.due("stopAfter " + writes, 0, x.stopAfter(writes));
            for (int i = 0; i < 110; i++) {
                x.spoil(12);
                Edges.due("a write", 1, x.scrub(0));
            }
            Edges.due("delete", 0, x.delete(1));
            Edges.due("not stopped", 0, x.state(4));
        }
    }

    /** "0 ..": no write is done any more, but it is STOPPED only by one that is not done. */
    private static void stopAfter0() {
        Pair x = Edges.start(Edges.files(60));
        Edges.due("stopAfter 0", 0, x.stopAfter(0));
        Edges.due("not stopped", 0, x.state(4));
        Edges.due("read", 60, x.read(0, 0, 60));
        Edges.due("scrub of what is right", 0, x.scrub(0));
        Edges.due("rewrap for its own epoch", 0, x.rewrap(0));
        Edges.due("create", 1, x.create(5));
        Edges.due("append", 0, x.append());
        Edges.due("not stopped", 0, x.state(4));
        Edges.due("delete", Edges.STATE, x.delete(0));
        Edges.due("stopped", 1, x.state(4));
        Edges.due("writes", 8, x.state(3));
        Edges.due("files", 1, x.state(0));
    }

    /** "so many more writes": counted from the last time that it was told. */
    private static void stopAfterToldAgain() {
        Pair x = Edges.start(Edges.files(0, 0, 0, 0));
        x.stopAfter(3);
        Edges.due("two writes", 0, x.delete(0));
        x.stopAfter(3);
        Edges.due("two writes", 0, x.delete(1));
        Edges.due("one write, then it stops", Edges.STATE, x.delete(2));
        Edges.due("writes", 13, x.state(3));
        Edges.due("stopped", 1, x.state(4));
        Pair y = Edges.start(Edges.files(0, 0));
        y.stopAfter(100);
        y.stopAfter(1);
        Edges.due("fewer than before", Edges.STATE, y.delete(0));
    }

    /** Terms: "it is STOPPED from then on until mount()", whatever is told meanwhile. */
    private static void stopAfterWhenStopped() {
        for (int writes : new int[] {-1, 0, 5, 100}) {
            Pair x = Edges.start(Edges.files(0, 0));
            Edges.stop(x, 0);
            Edges.due("stopAfter " + writes, 0, x.stopAfter(writes));
            Edges.due("stopped still", 1, x.state(4));
            Edges.due("delete", Edges.STATE, x.delete(0));
            Edges.due("mount", 2, x.mount());
            Edges.due("delete", 0, x.delete(0));
            Edges.due("not stopped", 0, x.state(4));
        }
    }

    // ---- promise 17

    /** "it is not STOPPED, and will not" */
    private static void mountWhenStopped() {
        Pair x = Edges.start(Edges.files(60, 0));
        Edges.stop(x, 0);
        Edges.due("mount", 2, x.mount());
        Edges.due("not stopped", 0, x.state(4));
        Edges.due("delete", 0, x.delete(0));
        Edges.due("delete", 0, x.delete(1));
        Edges.due("mount", 0, x.mount());
        Edges.due("writes stay counted", 14, x.state(3));
        Edges.due("the epoch stays", 1, x.state(2));
    }

    /** "and will not": what stopAfter() told is told no more. */
    private static void mountBeforeItStops() {
        for (int writes : new int[] {0, 1, 3}) {
            Pair x = Edges.start(Edges.files(60, 0));
            x.stopAfter(writes);
            Edges.due("mount", 2, x.mount());
            Edges.due("delete", 0, x.delete(0));
            Edges.due("delete", 0, x.delete(1));
            Edges.due("not stopped", 0, x.state(4));
        }
    }

    /** "a file that is begun is gone (the buffer stays)" */
    private static void mountWithAFileBegun() {
        for (int bytes : new int[] {0, 1, 192}) {
            Pair x = Edges.start(Edges.files(60));
            Edges.begin(x, 4, 30);
            Edges.fill(x, bytes, 0);
            Edges.due("mount", 1, x.mount());
            Edges.due("buffer", bytes, x.state(5));
            Edges.due("append", Edges.STATE, x.append());
            Edges.due("finish", Edges.STATE, x.finish());
            Edges.due("create", 1, x.create(4));
            Edges.due("append", bytes, x.append());
            Edges.due("finish", 1, x.finish());
            Edges.dueBytes(x, 1, 0, bytes);
        }
    }

    /** "how many files there are" */
    private static void mountCountsFiles() {
        Pair x = Edges.start();
        Edges.due("mount of nothing", 0, x.mount());
        Edges.epoch(x, 1);
        for (int f = 0; f < 4; f++) {
            Edges.add(x, f);
            Edges.due("mount", f + 1, x.mount());
        }
        x.spoil(0);
        x.damage(3, 0, 1);
        Edges.due("one good header is enough", 4, x.mount());
        x.spoil(1);
        Edges.due("none is not", 3, x.mount());
        x.damage(2, 63, 128);
        Edges.due("none is not", 2, x.mount());
        x.damage(3, 0, 1);
        Edges.due("the second is good again", 3, x.mount());
    }

    // ---- promise 18

    /** "Of a file 0 its length, 1 its epoch, 2 its first group .., 3 how many groups." */
    private static void fileOfEachWhat() {
        Pair x = Edges.start(Edges.files(193));
        Edges.epoch(x, 2);
        Edges.add(x, 385);
        Edges.add(x, 1);
        int[][] dues = {{193, 1, 0, 2}, {385, 2, 2, 3}, {1, 2, 5, 1}};
        for (int f = 0; f < 3; f++) {
            for (int what = 0; what < 4; what++) {
                Edges.due("file(" + f + ", " + what + ")", dues[f][what], x.file(f, what));
            }
        }
        Edges.stop(x, 0);
        Edges.due("when stopped", 193, x.file(0, 0));
    }

    /** "IllegalArgumentException if there is no such what." */
    private static void fileOfNoWhat() {
        for (int what : new int[] {-1, 4, 5, Edges.LEAST, Edges.MOST}) {
            Edges.refused("file of what " + what, Edges.ARGUMENT, CartridgeEdgesTest::withFiles,
                    x -> x.file(0, what));
            Pair x = Edges.start(CartridgeEdgesTest::withFiles);
            Edges.due("no file, no what", Edges.MISSING, x.file(2, what));
            Edges.due("no file at all, no what", Edges.MISSING, x.file(4, what));
        }
    }

    /** "NoSuchElementException if there is no such file" */
    private static void fileOfNoFile() {
        for (int file : new int[] {-1, 2, 3, 4, Edges.LEAST, Edges.MOST}) {
            Edges.refused("file " + file, Edges.MISSING, CartridgeEdgesTest::withFiles,
                    x -> x.file(file, 0));
        }
        Pair x = Edges.start(Edges.files(0, 0, 0, 9));
        Edges.due("the last file", 9, x.file(3, 0));
    }

    /** "its first group (0 without groups)" */
    private static void fileWithoutGroups() {
        Pair x = Edges.start(Edges.files(193, 0));
        Edges.due("length", 0, x.file(1, 0));
        Edges.due("first group", 0, x.file(1, 2));
        Edges.due("groups", 0, x.file(1, 3));
        x.delete(0);
        Edges.due("it has no group", 6, x.state(1));
        Edges.due("it has no group", -1, x.scrub(0));
    }

    // ---- promise 19

    /** "Byte i of a block" */
    private static void blockUpToTheLastByte() {
        Pair x = Edges.start();
        int[][] places = {{0, 0}, {0, 63}, {43, 0}, {43, 63}};
        for (int i = 0; i < places.length; i++) {
            x.damage(places[i][0], places[i][1], 200 + i);
        }
        for (int i = 0; i < places.length; i++) {
            Edges.due("byte", 200 + i, x.block(places[i][0], places[i][1]));
        }
    }

    /** "IllegalArgumentException if there is no such block or byte." */
    private static void blockOfNoByte() {
        int[][] places = {{-1, 0}, {44, 0}, {0, -1}, {0, 64}, {43, 64}, {44, -1}, {1, 128},
            {Edges.LEAST, 0}, {Edges.MOST, 0}, {0, Edges.LEAST}, {0, Edges.MOST}};
        for (int[] at : places) {
            Edges.refused("block " + at[0] + ", " + at[1], Edges.ARGUMENT,
                    CartridgeEdgesTest::withFiles, x -> x.block(at[0], at[1]));
        }
    }

    /** "(-1 if it is not readable)" */
    private static void blockThatIsNotReadable() {
        Pair x = Edges.start(Edges.files(60));
        x.spoil(8);
        Edges.due("first byte", -1, x.block(8, 0));
        Edges.due("last byte", -1, x.block(8, 63));
        Edges.due("no byte", Edges.ARGUMENT, x.block(8, 64));
        Edges.due("no byte", Edges.ARGUMENT, x.block(8, -1));
        Edges.stop(x, 0);
        Edges.due("when stopped", -1, x.block(8, 0));
        Edges.due("when stopped", 1, x.block(0, 0));
    }

    // ---- promise 20

    /** "0 files, 1 groups that no file has, 2 the present epoch, 3 writes done, 4 .. , 5 .." */
    private static void stateOfEachWhat() {
        Pair x = Edges.start(Edges.files(0, 400));
        Edges.epoch(x, 2);
        Edges.fill(x, 7, 1);
        int[] dues = {2, 3, 2, 22, 0, 7};
        for (int what = 0; what < 6; what++) {
            Edges.due("state(" + what + ")", dues[what], x.state(what));
        }
        Edges.begin(x, 5, 0);
        Edges.due("a file that is begun is none yet", 2, x.state(0));
        Edges.due("append", 7, x.append());
        Edges.due("its groups are free still", 3, x.state(1));
        Edges.due("the buffer is empty", 0, x.state(5));
    }

    /** "IllegalArgumentException if there is no such what." */
    private static void stateOfNoWhat() {
        for (int what : new int[] {-1, 6, 7, Edges.LEAST, Edges.MOST}) {
            Edges.refused("state(" + what + ")", Edges.ARGUMENT, CartridgeEdgesTest::withFiles,
                    x -> x.state(what));
        }
    }

    /** The most that each of them can be. */
    private static void stateOfAFullCartridge() {
        Pair x = Edges.start(Edges.files(577, 193, 0, 0));
        for (int e = 2; e <= 9; e++) {
            Edges.epoch(x, e);
        }
        Edges.fill(x, 192, 1);
        int[] dues = {4, 0, 9, 44, 0, 192};
        for (int what = 0; what < 6; what++) {
            Edges.due("state(" + what + ")", dues[what], x.state(what));
        }
        Edges.stop(x, 3);
        Edges.due("stopped", 1, x.state(4));
    }

    /** "3 writes done": those that were not done do not count, nor does what is no write. */
    private static void stateOfWrites() {
        Pair x = Edges.start(Edges.files(60));
        Edges.due("finish", 8, x.state(3));
        x.damage(8, 0, 1);
        x.spoil(9);
        x.read(0, 0, 60);
        Edges.due("none", 8, x.state(3));
        x.stopAfter(1);
        x.scrub(0);
        Edges.due("one of two", 9, x.state(3));
        x.mount();
        Edges.due("mount is none", 9, x.state(3));
        x.scrub(0);
        Edges.due("the other", 10, x.state(3));
        x.delete(0);
        Edges.due("delete", 12, x.state(3));
    }
}
