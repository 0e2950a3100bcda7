/** The edges of promises 10 to 13; above each test stands the sentence that it is for. */
public final class KeepingEdgesTest {
    private static final int[] NO_FILES = {-1, 1, 3, 4, Edges.LEAST, Edges.MOST};

    private KeepingEdgesTest() {
    }

    public static void main(String[] args) {
        rewrapOfAnotherEpoch();
        rewrapOfThePresentEpoch();
        rewrapByTheOneThatCounts();
        rewrapOfNoFile();
        rewrapWhenStopped();
        rewrapStopsBetween();
        dropsWhatIsNotUsed();
        dropOfNoEpoch();
        dropOfThePresentEpoch();
        dropOfWhatIsUsed();
        dropOfWhatDoesNotCount();
        dropWhenStopped();
        deleteWrites0();
        deleteOfNoFile();
        deleteWhenStopped();
        deleteStopsBetween();
        scrubOfNoGroup();
        scrubOfTheFirstAndTheLastGroup();
        scrubOfAGroupThatNoFileHas();
        scrubOfWhatIsLost();
        scrubOfWhatIsRight();
        scrubCounts();
        scrubWhenStopped();
        scrubStopsBetween();
        Edges.end();
    }

    /** A file of epoch 1, with epoch 2 present. */
    private static void ofEpochBefore(Pair x) {
        Edges.files(100).on(x);
        Edges.epoch(x, 2);
    }

    // ---- promise 10

    /** "The header .. is written anew for the present epoch (both blocks) ..: whether it was." */
    private static void rewrapOfAnotherEpoch() {
        Pair x = Edges.start(KeepingEdgesTest::ofEpochBefore);
        Edges.due("rewrap", 1, x.rewrap(0));
        Edges.due("writes", 10, x.state(3));
        Edges.due("epoch", 2, x.file(0, 1));
        Edges.due("first header's epoch", 2, x.block(0, 1));
        Edges.due("second header's epoch", 2, x.block(1, 1));
        Edges.due("length", 100, x.file(0, 0));
        Edges.due("groups", 1, x.file(0, 3));
        Edges.dueBytes(x, 0, 0, 100);
        x.spoil(0);
        Edges.due("by the second header", 2, x.file(0, 1));
        Edges.due("verify", 0, x.verify(0));

        Pair y = Edges.start(Edges.files(0, 0, 0, 60));
        for (int e = 2; e <= 9; e++) {
            Edges.epoch(y, e);
        }
        Edges.due("rewrap of the last file for the last epoch", 1, y.rewrap(3));
        Edges.due("epoch", 9, y.file(3, 1));
        Edges.due("verify", 0, y.verify(3));
    }

    /** "if it is .. of another one": else false, and nothing is written. */
    private static void rewrapOfThePresentEpoch() {
        Edges.refused("rewrap for its own epoch", "0", Edges.files(100), x -> x.rewrap(0));
        Edges.refused("rewrap again", "0", x -> {
            ofEpochBefore(x);
            x.rewrap(0);
        }, x -> x.rewrap(0));
        Edges.refused("rewrap for its own epoch with no write left", "0", x -> {
            Edges.files(100).on(x);
            x.stopAfter(0);
        }, x -> x.rewrap(0));
        Edges.refused("rewrap where the first header is spoiled", "0", x -> {
            Edges.files(100).on(x);
            x.spoil(0);
        }, x -> x.rewrap(0));
    }

    /** "(the one that counts)" */
    private static void rewrapByTheOneThatCounts() {
        Edges.Run between = x -> {
            ofEpochBefore(x);
            x.stopAfter(1);
            x.rewrap(0);
            x.mount();
        };
        Edges.refused("the first is of the present epoch", "0", between, x -> x.rewrap(0));
        Pair x = Edges.start(between);
        Edges.due("the second is not", 1, x.block(1, 1));
        x.spoil(0);
        Edges.due("the second counts", 1, x.file(0, 1));
        Edges.due("rewrap by the second", 1, x.rewrap(0));
        Edges.due("first header's epoch", 2, x.block(0, 1));
        Edges.due("second header's epoch", 2, x.block(1, 1));
        Edges.due("rewrap again", 0, x.rewrap(0));
        Edges.dueBytes(x, 0, 0, 100);
    }

    /** "NoSuchElementException if there is no such file" */
    private static void rewrapOfNoFile() {
        for (int file : NO_FILES) {
            Edges.refused("rewrap of file " + file, Edges.MISSING, KeepingEdgesTest::ofEpochBefore,
                    x -> x.rewrap(file));
        }
        Edges.refused("rewrap when stopped, no file", Edges.MISSING, x -> {
            ofEpochBefore(x);
            Edges.stop(x, 0);
        }, x -> x.rewrap(1));
    }

    /** "IllegalStateException if it is STOPPED" */
    private static void rewrapWhenStopped() {
        Edges.refused("rewrap when stopped", Edges.STATE, x -> {
            ofEpochBefore(x);
            Edges.stop(x, 0);
        }, x -> x.rewrap(0));
        Edges.refused("rewrap when stopped, for its own epoch", Edges.STATE, x -> {
            Edges.files(100).on(x);
            Edges.stop(x, 0);
        }, x -> x.rewrap(0));
    }

    /** "IllegalStateException if it .. comes to be": two writes are enough. */
    private static void rewrapStopsBetween() {
        for (int writes = 0; writes <= 2; writes++) {
            Pair x = Edges.start(KeepingEdgesTest::ofEpochBefore);
            x.stopAfter(writes);
            Edges.due("rewrap with " + writes, writes < 2 ? Edges.STATE : "1", x.rewrap(0));
            Edges.due("stopped", writes < 2 ? 1 : 0, x.state(4));
            Edges.due("writes", 8 + writes, x.state(3));
            Edges.due("first header's epoch", writes > 0 ? 2 : 1, x.block(0, 1));
            Edges.due("second header's epoch", writes > 1 ? 2 : 1, x.block(1, 1));
            Edges.due("the file's epoch", writes > 0 ? 2 : 1, x.file(0, 1));
            Edges.due("verify", 0, x.verify(0));
            Edges.due("mount", 1, x.mount());
            Edges.due("the file's epoch", writes > 0 ? 2 : 1, x.file(0, 1));
            Edges.dueBytes(x, 0, 0, 20);
        }
    }

    // ---- promise 11

    /** "An epoch's key is dropped.": the first one and the last but the present one. */
    private static void dropsWhatIsNotUsed() {
        Pair x = Edges.start();
        for (int e = 1; e <= 9; e++) {
            Edges.epoch(x, e);
        }
        Edges.due("drop the first", 0, x.dropEpoch(1));
        Edges.due("drop the last but one", 0, x.dropEpoch(8));
        Edges.due("present epoch", 9, x.state(2));
        Edges.due("drop the first again", Edges.ARGUMENT, x.dropEpoch(1));
        Edges.due("drop the second", 0, x.dropEpoch(2));
        x.create(1);
        Edges.due("a file of the ninth", 0, x.finish());
        Edges.due("its epoch", 9, x.file(0, 1));
    }

    /** "IllegalArgumentException if there is no such epoch" */
    private static void dropOfNoEpoch() {
        for (int e : new int[] {0, 1, -1, Edges.LEAST, Edges.MOST}) {
            Edges.refused("drop " + e + " of none", Edges.ARGUMENT, x -> { }, x -> x.dropEpoch(e));
        }
        for (int e : new int[] {-1, 0, 3, 10, 257, Edges.LEAST, Edges.MOST}) {
            Edges.refused("drop " + e + " of two", Edges.ARGUMENT, KeepingEdgesTest::ofEpochBefore,
                    x -> x.dropEpoch(e));
        }
        Edges.refused("drop the tenth of nine", Edges.ARGUMENT, x -> {
            for (int e = 1; e <= 9; e++) {
                Edges.epoch(x, e);
            }
        }, x -> x.dropEpoch(10));
        Edges.refused("drop what is dropped", Edges.ARGUMENT, x -> {
            ofEpochBefore(x);
            x.rewrap(0);
            x.dropEpoch(1);
        }, x -> x.dropEpoch(1));
        Edges.refused("drop none when stopped", Edges.ARGUMENT, x -> {
            ofEpochBefore(x);
            Edges.stop(x, 0);
        }, x -> x.dropEpoch(3));
    }

    /** "IllegalArgumentException if .. it is the present one" */
    private static void dropOfThePresentEpoch() {
        Edges.refused("drop the only one", Edges.ARGUMENT, x -> Edges.epoch(x, 1),
                x -> x.dropEpoch(1));
        Edges.refused("drop the present one of two", Edges.ARGUMENT,
                KeepingEdgesTest::ofEpochBefore, x -> x.dropEpoch(2));
        Edges.refused("drop the present one, which a file is of", Edges.ARGUMENT, x -> {
            ofEpochBefore(x);
            x.rewrap(0);
        }, x -> x.dropEpoch(2));
        Edges.refused("drop the present one when stopped", Edges.ARGUMENT, x -> {
            ofEpochBefore(x);
            Edges.stop(x, 0);
        }, x -> x.dropEpoch(2));
        Pair x = Edges.start();
        Edges.epoch(x, 1);
        Edges.epoch(x, 2);
        Edges.due("drop it when it is the present one no more", 0, x.dropEpoch(1));
    }

    /** "IllegalStateException if a file's header that counts is of it" */
    private static void dropOfWhatIsUsed() {
        Edges.refused("drop what a file is of", Edges.STATE, KeepingEdgesTest::ofEpochBefore,
                x -> x.dropEpoch(1));
        Edges.refused("drop what the last file alone is of", Edges.STATE, x -> {
            Edges.files(0, 0, 0, 0).on(x);
            Edges.epoch(x, 2);
            for (int f = 0; f < 3; f++) {
                x.rewrap(f);
            }
        }, x -> x.dropEpoch(1));
        Edges.refused("drop what a second header that counts is of", Edges.STATE, x -> {
            ofEpochBefore(x);
            x.stopAfter(1);
            x.rewrap(0);
            x.mount();
            x.spoil(0);
        }, x -> x.dropEpoch(1));
        Pair x = Edges.start(KeepingEdgesTest::ofEpochBefore);
        x.rewrap(0);
        Edges.due("drop what no file is of any more", 0, x.dropEpoch(1));
        Edges.due("verify", 0, x.verify(0));
        Pair y = Edges.start(KeepingEdgesTest::ofEpochBefore);
        y.delete(0);
        Edges.due("drop what was a deleted file's", 0, y.dropEpoch(1));
    }

    /** "that counts": a header that does not count does not hold its epoch. */
    private static void dropOfWhatDoesNotCount() {
        Pair x = Edges.start(KeepingEdgesTest::ofEpochBefore);
        x.stopAfter(1);
        x.rewrap(0);
        x.mount();
        Edges.due("the second header is of it", 1, x.block(1, 1));
        Edges.due("drop it", 0, x.dropEpoch(1));
        Edges.due("the file is there", 2, x.file(0, 1));
        x.spoil(0);
        Edges.due("the second header is of a dropped epoch", Edges.MISSING, x.file(0, 1));

        Pair y = Edges.start(KeepingEdgesTest::ofEpochBefore);
        y.spoil(1);
        y.damage(0, 20, 1);
        Edges.due("drop while the header is not good", 0, y.dropEpoch(1));
        y.damage(0, 20, 1);
        Edges.due("no file comes back", 0, y.state(0));
        Edges.due("no group is a file's", 6, y.state(1));

        Pair z = Edges.start(Edges.files());
        Edges.begin(z, 1, 60);
        Edges.epoch(z, 2);
        Edges.due("drop the epoch in which a file was begun", 0, z.dropEpoch(1));
        Edges.due("finish", 0, z.finish());
        Edges.due("it is of the epoch in which it is written", 2, z.file(0, 1));
        Edges.dueBytes(z, 0, 0, 60);
    }

    /** "IllegalStateException if .. it is STOPPED" */
    private static void dropWhenStopped() {
        Edges.refused("drop when stopped", Edges.STATE, x -> {
            ofEpochBefore(x);
            x.rewrap(0);
            Edges.stop(x, 0);
        }, x -> x.dropEpoch(1));
        Pair x = Edges.start(KeepingEdgesTest::ofEpochBefore);
        x.rewrap(0);
        x.stopAfter(0);
        Edges.due("dropping is no write", 0, x.dropEpoch(1));
        Edges.due("not stopped", 0, x.state(4));
    }

    // ---- promise 12

    /** "A file is taken away: its header's blocks are written 0." */
    private static void deleteWrites0() {
        for (int f = 0; f < 4; f++) {
            Pair x = Edges.start(Edges.files(10, 20, 30, 40));
            x.spoil(2 * f + 1);
            Edges.due("delete", 0, x.delete(f));
            Edges.due("writes", 34, x.state(3));
            for (int i = 0; i < 64; i++) {
                Edges.due("first block", 0, x.block(2 * f, i));
                Edges.due("second block", 0, x.block(2 * f + 1, i));
            }
            Edges.due("files", 3, x.state(0));
            Edges.due("groups free", 3, x.state(1));
            Edges.due("its group stays as it is", !x.block(8 + 6 * f, 60).equals("-1"));
            Edges.due("delete again", Edges.MISSING, x.delete(f));
            int other = (f + 1) % 4;
            Edges.dueBytes(x, other, 0, 10);
        }
    }

    /** "NoSuchElementException if there is no such file" */
    private static void deleteOfNoFile() {
        for (int file : NO_FILES) {
            Edges.refused("delete of file " + file, Edges.MISSING, Edges.files(100),
                    x -> x.delete(file));
        }
        Edges.refused("delete of a file that is begun", Edges.MISSING, x -> {
            Edges.files(100).on(x);
            Edges.begin(x, 1, 5);
        }, x -> x.delete(1));
        Edges.refused("delete with no write left, no file", Edges.MISSING, x -> {
            Edges.files(100).on(x);
            x.stopAfter(0);
        }, x -> x.delete(1));
        Edges.refused("delete when stopped, no file", Edges.MISSING, x -> {
            Edges.files(100).on(x);
            Edges.stop(x, 0);
        }, x -> x.delete(1));
    }

    /** "IllegalStateException if it is STOPPED" */
    private static void deleteWhenStopped() {
        Edges.refused("delete when stopped", Edges.STATE, x -> {
            Edges.files(100, 5).on(x);
            Edges.stop(x, 0);
        }, x -> x.delete(1));
    }

    /** "IllegalStateException if it .. comes to be": two writes are enough. */
    private static void deleteStopsBetween() {
        for (int writes = 0; writes <= 2; writes++) {
            Pair x = Edges.start(Edges.files(100));
            x.stopAfter(writes);
            Edges.due("delete with " + writes, writes < 2 ? Edges.STATE : "0", x.delete(0));
            Edges.due("stopped", writes < 2 ? 1 : 0, x.state(4));
            Edges.due("writes", 8 + writes, x.state(3));
            Edges.due("first header", writes > 0 ? 0 : 1, x.block(0, 0));
            Edges.due("second header", writes > 1 ? 0 : 1, x.block(1, 0));
            Edges.due("files", writes < 2 ? 1 : 0, x.state(0));
            Edges.due("groups free", writes < 2 ? 5 : 6, x.state(1));
            Edges.due("mount", writes < 2 ? 1 : 0, x.mount());
            if (writes < 2) {
                Edges.dueBytes(x, 0, 0, 20);
                Edges.due("delete of the rest", 0, x.delete(0));
                Edges.due("files", 0, x.state(0));
            }
        }
    }

    // ---- promise 13

    /** "IllegalArgumentException if there is no such group" */
    private static void scrubOfNoGroup() {
        for (int group : new int[] {-1, 6, 7, Edges.LEAST, Edges.MOST}) {
            Edges.refused("scrub of group " + group, Edges.ARGUMENT, x -> {
                Edges.files(100).on(x);
                x.spoil(8);
            }, x -> x.scrub(group));
        }
        Edges.refused("scrub of no group when stopped", Edges.ARGUMENT, x -> {
            Edges.files(100).on(x);
            Edges.stop(x, 0);
        }, x -> x.scrub(6));
    }

    /** Terms: "GROUPS 0 .. 5": the first and the last of them are looked through. */
    private static void scrubOfTheFirstAndTheLastGroup() {
        Pair x = Edges.start(Edges.files(577, 193));
        for (int g = 0; g < 6; g++) {
            Edges.due("scrub of group " + g, 0, x.scrub(g));
            x.spoil(8 + 6 * g);
            x.spoil(8 + 6 * g + 5);
        }
        for (int g = 0; g < 6; g++) {
            Edges.due("scrub of group " + g, 2, x.scrub(g));
            Edges.due("then", 0, x.scrub(g));
        }
    }

    /** "-1 if .. no file has it" */
    private static void scrubOfAGroupThatNoFileHas() {
        Edges.Run before = x -> {
            Edges.files(193, 0).on(x);
            x.spoil(20);
            x.damage(25, 3, 3);
        };
        for (int group = 2; group < 6; group++) {
            int free = group;
            Edges.refused("scrub of group " + group, "-1", before, x -> x.scrub(free));
        }
        Edges.refused("scrub of a deleted file's", "-1", x -> {
            before.on(x);
            x.delete(0);
            x.spoil(8);
        }, x -> x.scrub(0));
        Edges.refused("scrub of a free group with no write left", "-1", x -> {
            before.on(x);
            x.stopAfter(0);
        }, x -> x.scrub(2));
    }

    /** "-1 if it is LOST": nothing of it is written then, parity neither. */
    private static void scrubOfWhatIsLost() {
        Edges.refused("three bad", "-1", x -> {
            Edges.files(192).on(x);
            x.spoil(8);
            x.damage(9, 0, 1);
            x.spoil(11);
            x.spoil(13);
        }, x -> x.scrub(0));
        Edges.refused("two bad and no parity 1", "-1", x -> {
            Edges.files(192).on(x);
            x.spoil(8);
            x.damage(9, 0, 1);
            x.spoil(13);
        }, x -> x.scrub(0));
        Edges.refused("lost by blocks behind the last one alone", "-1", x -> {
            Edges.files(20).on(x);
            x.spoil(9);
            x.spoil(10);
            x.spoil(11);
        }, x -> x.scrub(0));
        Edges.refused("lost with no write left", "-1", x -> {
            Edges.files(192).on(x);
            x.spoil(8);
            x.spoil(12);
            x.spoil(13);
            x.stopAfter(0);
        }, x -> x.scrub(0));
    }

    /** "how many were written": 0 if all is as it should be, and nothing is written then. */
    private static void scrubOfWhatIsRight() {
        Edges.refused("scrub of what is right", "0", Edges.files(193), x -> x.scrub(0));
        Edges.refused("scrub of one segment and 0 behind it", "0", Edges.files(193),
                x -> x.scrub(1));
        Edges.refused("scrub of what is right with no write left", "0", x -> {
            Edges.files(193).on(x);
            x.stopAfter(0);
        }, x -> x.scrub(0));
    }

    /**
     * "bad data blocks are recovered and written, then parity blocks that are not readable or not
     * as they should be: how many were written"
     */
    private static void scrubCounts() {
        int[][] spoiled = {{8}, {11}, {12}, {13}, {8, 9}, {10, 11}, {12, 13}, {9, 12}, {9, 13}};
        for (int[] blocks : spoiled) {
            for (int length : new int[] {192, 48}) {
                Pair x = Edges.start(Edges.files(length));
                String[] before = new String[6];
                for (int i = 0; i < 6; i++) {
                    before[i] = x.block(8 + i, 33);
                }
                for (int block : blocks) {
                    x.spoil(block);
                }
                Edges.due("scrub", blocks.length, x.scrub(0));
                Edges.due("writes", 8 + blocks.length, x.state(3));
                for (int i = 0; i < 6; i++) {
                    Edges.due("as it was", before[i], x.block(8 + i, 33));
                }
                Edges.due("scrub again", 0, x.scrub(0));
                Edges.dueBytes(x, 0, 0, length);
            }
        }
    }

    /** "IllegalStateException if it is STOPPED" */
    private static void scrubWhenStopped() {
        Edges.Run before = x -> {
            Edges.files(100, 1).on(x);
            x.spoil(8);
            Edges.stop(x, 1);
        };
        for (int group = 0; group < 6; group++) {
            int each = group;
            Edges.refused("scrub when stopped", Edges.STATE, before, x -> x.scrub(each));
        }
    }

    /** "IllegalStateException if it .. comes to be": as many writes as are needed are enough. */
    private static void scrubStopsBetween() {
        int[][] orders = {{8, 11}, {9, 10}, {12, 13}, {10, 12}, {8, 13}};
        for (int[] order : orders) {
            for (int writes = 0; writes <= 2; writes++) {
                Pair x = Edges.start(Edges.files(192));
                x.spoil(order[1]);
                x.spoil(order[0]);
                x.stopAfter(writes);
                Edges.due("scrub with " + writes, writes < 2 ? Edges.STATE : "2", x.scrub(0));
                Edges.due("stopped", writes < 2 ? 1 : 0, x.state(4));
                Edges.due("writes", 8 + writes, x.state(3));
                for (int i = 0; i < 2; i++) {
                    boolean isReadable = !x.block(order[i], 0).equals("-1");
                    Edges.due("block " + order[i] + " of " + writes, isReadable == i < writes);
                }
                x.mount();
                Edges.due("scrub of the rest", 2 - writes, x.scrub(0));
                Edges.dueBytes(x, 0, 0, 192);
            }
        }
    }
}
