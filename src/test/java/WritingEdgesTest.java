/** The edges of promises 1 to 6; above each test stands the sentence that it is for. */
public final class WritingEdgesTest {
    private WritingEdgesTest() {
    }

    public static void main(String[] args) {
        newObject();
        newBlocks();
        putTakesOneToFour();
        putRefusesOtherCounts();
        putTakesUpTo192();
        putRefusesBeyond192();
        putWhenStopped();
        epochOf32();
        epochOfOtherCounts();
        epochsUpToNine();
        epochWithNineOfWhichOneIsDropped();
        epochWhenStopped();
        createWithoutEpoch();
        createWhenOneIsBegun();
        createUpToFour();
        createTakesTheLeast();
        createWhenStopped();
        createTakesEverySalt();
        appendWhenNoneIsBegun();
        appendOfNothing();
        appendUpTo768();
        appendToGroupsThatFollow();
        appendToGroupsThatDoNotFollow();
        appendWhenGroupsAreGone();
        appendWhenStopped();
        finishWhenNoneIsBegun();
        finishWhenStopped();
        finishTakesGroups();
        finishStopsBetweenAnyTwo();
        finishFromTheLeastFirstOne();
        finishUpToTheLastGroup();
        finishWithoutFreeGroups();
        finishWhenGroupsAreGone();
        Edges.end();
    }

    // ---- promise 1

    /** "An empty cartridge, no epoch, nothing in the buffer." */
    private static void newObject() {
        Pair x = Edges.start();
        int[] states = {0, 6, 0, 0, 0, 0};
        for (int what = 0; what < 6; what++) {
            Edges.due("state of a new object", states[what], x.state(what));
        }
        for (int f = 0; f < 4; f++) {
            Edges.due("file", Edges.MISSING, x.file(f, 0));
            Edges.due("verify", Edges.MISSING, x.verify(f));
            Edges.due("read", Edges.MISSING, x.read(f, 0, 0));
            Edges.due("rewrap", Edges.MISSING, x.rewrap(f));
            Edges.due("delete", Edges.MISSING, x.delete(f));
        }
        for (int g = 0; g < 6; g++) {
            Edges.due("scrub", -1, x.scrub(g));
        }
        Edges.due("output", Edges.INDEX, x.output(0));
        Edges.due("epoch", Edges.STATE, x.epoch());
        Edges.due("dropEpoch", Edges.ARGUMENT, x.dropEpoch(1));
        Edges.due("create", Edges.STATE, x.create(0));
        Edges.due("append", Edges.STATE, x.append());
        Edges.due("finish", Edges.STATE, x.finish());
        Edges.due("mount", 0, x.mount());
    }

    /** Terms: "A CARTRIDGE has blocks 0 .. 43 of 64 bytes, all 0 at first." */
    private static void newBlocks() {
        for (int first = 0; first < 44; first += 4) {
            Pair x = Edges.start();
            for (int i = 0; i < 256; i++) {
                Edges.due("byte of a new cartridge", 0, x.block(first + i / 64, i % 64));
            }
        }
    }

    // ---- promise 2

    /** "The n (1 .. 4) lowest bytes of word, the highest first, come to the buffer: true" */
    private static void putTakesOneToFour() {
        int[] bytes = {0x80, 0xFF, 0x01, 0x7E};
        for (int n = 1; n <= 4; n++) {
            Pair x = Edges.start(Edges.files());
            Edges.due("put of " + n, 1, x.put(0x80FF017E, n));
            Edges.due("buffer", n, x.state(5));
            x.create(1);
            Edges.due("append", n, x.append());
            x.finish();
            Edges.due("read", n, x.read(0, 0, 9));
            for (int i = 0; i < n; i++) {
                Edges.due("byte " + i + " of " + n, bytes[4 - n + i], x.output(i));
            }
        }
        for (int word : new int[] {0, -1, Edges.LEAST, Edges.MOST}) {
            Pair x = Edges.start(Edges.files());
            Edges.due("put of " + word, 1, x.put(word, 4));
            x.create(1);
            x.append();
            x.finish();
            x.read(0, 0, 4);
            for (int i = 0; i < 4; i++) {
                Edges.due("byte of " + word, (word >>> (24 - 8 * i)) & 255, x.output(i));
            }
        }
    }

    /** "false for other n" */
    private static void putRefusesOtherCounts() {
        for (int n : new int[] {0, 5, -1, -4, 8, 256, 257, Edges.MOST, Edges.LEAST}) {
            Edges.refused("put of n " + n, "0", x -> {
                Edges.epoch(x, 1);
                x.create(3);
                Edges.fill(x, 3, 9);
            }, x -> x.put(0x01020304, n));
        }
        Edges.refused("put of n 0 in an empty buffer", "0", x -> { }, x -> x.put(1, 0));
    }

    /** "false .. if it would have more than 192": 192 is not more. */
    private static void putTakesUpTo192() {
        for (int n = 1; n <= 4; n++) {
            Pair x = Edges.start(Edges.files());
            Edges.fill(x, 192 - n, 0);
            Edges.due("put up to 192", 1, x.put(0x0A0B0C0D, n));
            Edges.due("buffer", 192, x.state(5));
            x.create(1);
            Edges.due("append", 192, x.append());
            x.finish();
            Edges.due("read", n, x.read(0, 192 - n, 9));
            Edges.due("first of the last", 0x0E - n, x.output(0));
            Edges.due("last of all", 0x0D, x.output(n - 1));
        }
    }

    /** "false .. if it would have more than 192" */
    private static void putRefusesBeyond192() {
        for (int n = 1; n <= 4; n++) {
            for (int free = 0; free < n; free++) {
                int count = n;
                int filled = 192 - free;
                Edges.refused("put of " + n + " behind " + filled, "0", x -> {
                    Edges.epoch(x, 1);
                    x.create(3);
                    Edges.fill(x, filled, 9);
                }, x -> x.put(-1, count));
            }
        }
        Pair x = Edges.start();
        Edges.fill(x, 190, 1);
        Edges.due("put of 3 behind 190", 0, x.put(5, 3));
        Edges.due("put of 2 behind 190", 1, x.put(5, 2));
        Edges.due("put of 1 behind 192", 0, x.put(5, 1));
        Edges.due("buffer", 192, x.state(5));
    }

    /** It names no STOPPED, so that it puts then, too. */
    private static void putWhenStopped() {
        Pair x = Edges.start(Edges.files(0));
        Edges.stop(x, 0);
        Edges.due("put when stopped", 1, x.put(5, 2));
        Edges.due("buffer", 2, x.state(5));
    }

    // ---- promise 3

    /** "A new epoch, whose key is the buffer (which is empty then): its number (1, 2, ..)." */
    private static void epochOf32() {
        Pair x = Edges.start();
        Edges.fill(x, 32, 5);
        Edges.due("first epoch", 1, x.epoch());
        Edges.due("buffer", 0, x.state(5));
        Edges.due("present epoch", 1, x.state(2));
        Edges.due("again, without a key", Edges.STATE, x.epoch());
        Edges.fill(x, 32, 6);
        Edges.due("second epoch", 2, x.epoch());
        Edges.due("buffer", 0, x.state(5));
        x.dropEpoch(1);
        Edges.fill(x, 32, 7);
        Edges.due("the number behind one that is dropped", 3, x.epoch());
        x.create(1);
        Edges.fill(x, 32, 8);
        Edges.due("a file that is begun does not refuse it", 4, x.epoch());
    }

    /** "IllegalStateException if it has not just 32 bytes (it stays then)" */
    private static void epochOfOtherCounts() {
        for (int count : new int[] {0, 1, 31, 33, 64, 192}) {
            Edges.refused("epoch of " + count, Edges.STATE, x -> Edges.fill(x, count, 3),
                    Pair::epoch);
            Edges.refused("second epoch of " + count, Edges.STATE, x -> {
                Edges.files(5).on(x);
                x.create(2);
                Edges.fill(x, count, 3);
            }, Pair::epoch);
        }
    }

    /** "IllegalStateException if .. there are nine": the ninth is made, the tenth is not. */
    private static void epochsUpToNine() {
        Pair x = Edges.start();
        for (int e = 1; e <= 9; e++) {
            Edges.fill(x, 32, e);
            Edges.due("epoch " + e, e, x.epoch());
            Edges.due("buffer", 0, x.state(5));
            Edges.due("present epoch", e, x.state(2));
        }
        x.create(4);
        x.finish();
        Edges.due("a file of the ninth", 9, x.file(0, 1));
        Edges.refused("tenth epoch", Edges.STATE, y -> {
            for (int e = 1; e <= 9; e++) {
                Edges.epoch(y, e);
            }
            y.create(4);
            Edges.fill(y, 32, 10);
        }, Pair::epoch);
    }

    /** "there are nine": an epoch whose key is dropped has had its number, and still counts. */
    private static void epochWithNineOfWhichOneIsDropped() {
        for (int gone : new int[] {1, 8}) {
            Edges.refused("tenth epoch without " + gone, Edges.STATE, x -> {
                for (int e = 1; e <= 9; e++) {
                    Edges.epoch(x, e);
                }
                x.dropEpoch(gone);
                Edges.fill(x, 32, 10);
            }, Pair::epoch);
        }
    }

    /** "IllegalStateException if .. it is STOPPED" */
    private static void epochWhenStopped() {
        Edges.refused("epoch when stopped", Edges.STATE, x -> {
            Edges.files(0).on(x);
            Edges.fill(x, 32, 10);
            Edges.stop(x, 0);
        }, Pair::epoch);
        Pair x = Edges.start(Edges.files(0));
        Edges.fill(x, 32, 10);
        x.stopAfter(0);
        Edges.due("an epoch is no write", 2, x.epoch());
    }

    // ---- promise 4

    /** "IllegalStateException if there is no epoch" */
    private static void createWithoutEpoch() {
        Edges.refused("create without epoch", Edges.STATE, x -> Edges.fill(x, 32, 1),
                x -> x.create(1));
        Pair x = Edges.start();
        Edges.epoch(x, 1);
        Edges.due("create with the first epoch", 0, x.create(1));
        Edges.due("it is no file yet", 0, x.state(0));
        Edges.due("it is no file yet", Edges.MISSING, x.file(0, 0));
        Edges.due("nothing is written by it", 0, x.state(3));
    }

    /** "IllegalStateException if .. one is begun" */
    private static void createWhenOneIsBegun() {
        Edges.refused("create when one is begun", Edges.STATE, x -> {
            Edges.files(5).on(x);
            Edges.begin(x, 7, 50);
            Edges.fill(x, 3, 90);
        }, x -> x.create(9));
        Edges.refused("create when one of no bytes is begun", Edges.STATE,
                Edges.then(Edges.files(), x -> x.create(7)), x -> x.create(9));
    }

    /** "IllegalStateException if .. there are four": the fourth is begun, a fifth is not. */
    private static void createUpToFour() {
        Pair x = Edges.start(Edges.files());
        for (int f = 0; f < 4; f++) {
            Edges.due("create", f, x.create(f));
            Edges.due("finish", f, x.finish());
            Edges.due("files", f + 1, x.state(0));
        }
        Edges.refused("fifth file", Edges.STATE, Edges.files(0, 3, 50, 0), y -> y.create(5));
        Edges.refused("fifth file, a header spoiled", Edges.STATE, y -> {
            Edges.files(0, 3, 50, 0).on(y);
            y.spoil(4);
        }, y -> y.create(5));
        Pair z = Edges.start(Edges.files(0, 3, 50, 0));
        z.spoil(4);
        z.spoil(5);
        Edges.due("both headers spoiled, there are three", 2, z.create(5));
    }

    /** "A file is begun: the least number that there is not." */
    private static void createTakesTheLeast() {
        Pair x = Edges.start(Edges.files(0, 0, 0, 0));
        x.delete(3);
        x.delete(1);
        Edges.due("least of 1 and 3", 1, x.create(5));
        x.finish();
        Edges.due("then 3", 3, x.create(5));
        x.mount();
        x.delete(0);
        Edges.due("least of 0 and 3", 0, x.create(5));
    }

    /** "IllegalStateException if .. it is STOPPED" */
    private static void createWhenStopped() {
        Edges.refused("create when stopped", Edges.STATE, x -> {
            Edges.files(3).on(x);
            Edges.stop(x, 0);
        }, x -> x.create(5));
    }

    /** Each int is a salt; its bytes stand in the header, the highest first. */
    private static void createTakesEverySalt() {
        for (int salt : new int[] {0, 1, -1, 0x01020304, 0xFE00807F, Edges.LEAST, Edges.MOST}) {
            Pair x = Edges.start(Edges.files());
            x.create(salt);
            Edges.fill(x, 2, 0);
            x.append();
            Edges.due("finish", 0, x.finish());
            for (int i = 0; i < 4; i++) {
                Edges.due("salt's byte", (salt >>> (24 - 8 * i)) & 255, x.block(0, 6 + i));
            }
            Edges.dueBytes(x, 0, 0, 2);
        }
    }

    // ---- promise 5

    /** "IllegalStateException if none is begun" */
    private static void appendWhenNoneIsBegun() {
        Edges.refused("append without epoch", Edges.STATE, x -> Edges.fill(x, 5, 1), Pair::append);
        Edges.refused("append of nothing to none", Edges.STATE, Edges.files(), Pair::append);
        Edges.refused("append behind finish", Edges.STATE,
                Edges.then(Edges.files(10), x -> Edges.fill(x, 5, 1)), Pair::append);
        Edges.refused("append behind mount", Edges.STATE, x -> {
            Edges.files(10).on(x);
            Edges.begin(x, 4, 6);
            Edges.fill(x, 5, 1);
            x.mount();
        }, Pair::append);
    }

    /** "The buffer (an empty one, too) comes to the file that is begun: its length then." */
    private static void appendOfNothing() {
        Pair x = Edges.start(Edges.files());
        x.create(1);
        Edges.due("append of nothing to nothing", 0, x.append());
        Edges.fill(x, 5, 0);
        Edges.due("append of 5", 5, x.append());
        Edges.due("buffer", 0, x.state(5));
        Edges.due("append of nothing", 5, x.append());
        Edges.fill(x, 1, 35);
        Edges.due("append of 1", 6, x.append());
        x.finish();
        Edges.due("length", 6, x.file(0, 0));
        Edges.dueBytes(x, 0, 0, 6);
    }

    /** "IllegalStateException if .. it would be above 768 ..; nothing changes then." */
    private static void appendUpTo768() {
        Pair x = Edges.start(Edges.files());
        Edges.begin(x, 1, 576);
        Edges.fill(x, 192, 7 * 576);
        Edges.due("append up to 768", 768, x.append());
        Edges.due("append of nothing to 768", 768, x.append());
        x.put(0, 1);
        Edges.due("append up to 769", Edges.STATE, x.append());
        Edges.due("buffer", 1, x.state(5));
        Edges.due("finish", 0, x.finish());
        Edges.due("length", 768, x.file(0, 0));
        Edges.due("groups", 4, x.file(0, 3));
        Edges.dueBytes(x, 0, 700, 68);
        Edges.refused("append of 1 to 768", Edges.STATE, y -> {
            Edges.files().on(y);
            Edges.begin(y, 1, 768);
            y.put(0, 1);
        }, Pair::append);
        Edges.refused("append of 192 to 577", Edges.STATE, y -> {
            Edges.files().on(y);
            Edges.begin(y, 1, 577);
            Edges.fill(y, 192, 9);
        }, Pair::append);
    }

    /** "IllegalStateException if it would .. need more groups than follow each other free" */
    private static void appendToGroupsThatFollow() {
        int[][] others = {{577, 193}, {577, 1}, {193, 193}, {193, 1}};
        for (int free = 0; free < 4; free++) {
            Edges.Run before = Edges.files(others[free]);
            int most = 192 * free;
            Pair x = Edges.start(before);
            Edges.due("groups free", free, x.state(1));
            x.create(1);
            Edges.due("append of nothing", 0, x.append());
            for (int length = 192; length <= most; length += 192) {
                Edges.fill(x, 192, 7 * (length - 192));
                Edges.due("append to groups that are free", length, x.append());
            }
            Edges.due("append of nothing", most, x.append());
            Edges.due("finish", 2, x.finish());
            Edges.due("groups free then", 0, x.state(1));
            Edges.refused("append of 1 beyond " + free + " groups", Edges.STATE, y -> {
                before.on(y);
                Edges.begin(y, 1, most);
                y.put(5, 1);
            }, Pair::append);
        }
    }

    /** "follow each other free": four are free, but never three in a row. */
    private static void appendToGroupsThatDoNotFollow() {
        Edges.Run before = x -> {
            Edges.files(193, 193).on(x);
            x.delete(0);
            Edges.begin(x, 1, 384);
        };
        Pair x = Edges.start(before);
        Edges.due("groups free", 4, x.state(1));
        Edges.due("append of nothing", 384, x.append());
        Edges.refused("append to a third group", Edges.STATE, y -> {
            before.on(y);
            y.put(5, 1);
        }, Pair::append);
    }

    /** "it would .. need more groups": of what it has, too, if a header has come back. */
    private static void appendWhenGroupsAreGone() {
        Edges.Run before = x -> {
            Edges.files(193, 385).on(x);
            x.spoil(1);
            x.damage(0, 30, 1);
            Edges.begin(x, 1, 193);
        };
        Pair x = Edges.start(before);
        Edges.due("append of nothing", 193, x.append());
        Edges.refused("append of nothing without groups", Edges.STATE, y -> {
            before.on(y);
            y.damage(0, 30, 1);
        }, Pair::append);
    }

    /** "IllegalStateException if .. it is STOPPED; nothing changes then." */
    private static void appendWhenStopped() {
        for (int bytes : new int[] {0, 5}) {
            Edges.refused("append when stopped", Edges.STATE, x -> {
                Edges.files(3).on(x);
                x.create(1);
                Edges.fill(x, bytes, 5);
                Edges.stop(x, 0);
            }, Pair::append);
        }
        Pair x = Edges.start(Edges.files(3));
        x.create(1);
        x.stopAfter(0);
        Edges.fill(x, 5, 5);
        Edges.due("append is no write", 5, x.append());
    }

    // ---- promise 6

    /** "IllegalStateException if none is begun" */
    private static void finishWhenNoneIsBegun() {
        Edges.refused("finish without epoch", Edges.STATE, x -> Edges.fill(x, 5, 1), Pair::finish);
        Edges.refused("finish of none", Edges.STATE, Edges.files(), Pair::finish);
        Edges.refused("finish behind finish", Edges.STATE, Edges.files(10), Pair::finish);
        Edges.refused("finish behind mount", Edges.STATE, x -> {
            Edges.files(10).on(x);
            Edges.begin(x, 4, 6);
            x.mount();
        }, Pair::finish);
    }

    /** "IllegalStateException if .. it is STOPPED" */
    private static void finishWhenStopped() {
        Edges.refused("finish when stopped", Edges.STATE, x -> {
            Edges.files(3).on(x);
            Edges.begin(x, 1, 10);
            Edges.stop(x, 0);
        }, Pair::finish);
    }

    /** "group by group .., of each its six blocks in order, then the header's two: its number" */
    private static void finishTakesGroups() {
        int[] lengths = {0, 1, 48, 191, 192, 193, 384, 385, 576, 577, 768};
        int[] groups = {0, 1, 1, 1, 1, 2, 2, 3, 3, 4, 4};
        for (int i = 0; i < lengths.length; i++) {
            Pair x = Edges.start(Edges.files());
            Edges.begin(x, 1, lengths[i]);
            Edges.fill(x, 3, 1);
            Edges.due("finish of " + lengths[i], 0, x.finish());
            Edges.due("writes of " + lengths[i], 6 * groups[i] + 2, x.state(3));
            Edges.due("length", lengths[i], x.file(0, 0));
            Edges.due("groups of " + lengths[i], groups[i], x.file(0, 3));
            Edges.due("groups free then", 6 - groups[i], x.state(1));
            Edges.due("the buffer stays", 3, x.state(5));
            Edges.due("verify", 0, x.verify(0));
        }
    }

    /** "IllegalStateException .. (it is begun no more then) .. it comes to be STOPPED." */
    private static void finishStopsBetweenAnyTwo() {
        int[] order = {8, 9, 10, 11, 12, 13, 14, 15, 16, 17, 18, 19, 0, 1};
        for (int writes = 0; writes <= order.length; writes++) {
            boolean isDone = writes == order.length;
            Pair x = Edges.start(Edges.files());
            Edges.begin(x, 1, 193);
            for (int block : order) {
                x.spoil(block);
            }
            x.stopAfter(writes);
            Edges.due("finish with " + writes, isDone ? "0" : Edges.STATE, x.finish());
            Edges.due("writes done", writes, x.state(3));
            Edges.due("stopped", isDone ? 0 : 1, x.state(4));
            for (int i = 0; i < order.length; i++) {
                boolean isReadable = !x.block(order[i], 0).equals("-1");
                Edges.due("block " + order[i] + " of " + writes, isReadable == i < writes);
            }
            int files = writes < 13 ? 0 : 1;
            Edges.due("files", files, x.state(0));
            Edges.due("mount", files, x.mount());
            Edges.due("it is begun no more", Edges.STATE, x.append());
            Edges.due("it is begun no more", Edges.STATE, x.finish());
            Edges.due("another may begin", files, x.create(1));
        }
        Pair y = Edges.start(Edges.files());
        y.create(1);
        y.stopAfter(0);
        Edges.due("finish of no bytes", Edges.STATE, y.finish());
        Edges.due("stopped", 1, y.state(4));
    }

    /** "those that follow each other, from the least first one on, that no file has" */
    private static void finishFromTheLeastFirstOne() {
        Pair x = Edges.start(Edges.files(1, 193, 1));
        x.delete(1);
        Edges.add(x, 193);
        Edges.due("a gap that is just enough", 1, x.file(1, 2));
        x.delete(0);
        Edges.add(x, 193);
        Edges.due("a gap that is one too small", 4, x.file(0, 2));
        Edges.add(x, 192);
        Edges.due("the gap that was left", 0, x.file(3, 2));
        Edges.due("groups free", 0, x.state(1));
        Edges.dueBytes(x, 1, 188, 5);
        Edges.dueBytes(x, 0, 188, 5);
        Edges.dueBytes(x, 3, 188, 4);
    }

    /** Terms: "GROUPS 0 .. 5 follow": the last of them is used up to its last block. */
    private static void finishUpToTheLastGroup() {
        Pair x = Edges.start(Edges.files(577, 1));
        Edges.add(x, 192);
        Edges.due("first group", 5, x.file(2, 2));
        x.spoil(43);
        x.spoil(42);
        Edges.due("its parity", 2, x.scrub(5));
        Edges.dueBytes(x, 2, 0, 192);
    }

    /** Terms: "A file of no bytes has no segments, and no groups." */
    private static void finishWithoutFreeGroups() {
        Pair x = Edges.start(Edges.files(577, 193));
        Edges.due("groups free", 0, x.state(1));
        x.create(3);
        Edges.due("append of nothing", 0, x.append());
        Edges.due("finish", 2, x.finish());
        Edges.due("its first group", 0, x.file(2, 2));
        Edges.due("its groups", 0, x.file(2, 3));
        Edges.due("header's byte of the first group", 0, x.block(4, 4));
        Edges.due("header's byte of groups", 0, x.block(4, 5));
    }

    /** "(it is begun no more then) there are no such groups any more" */
    private static void finishWhenGroupsAreGone() {
        Edges.Run before = x -> {
            Edges.files(193, 385).on(x);
            x.spoil(1);
            x.damage(0, 30, 1);
            Edges.begin(x, 1, 193);
        };
        Pair x = Edges.start(before);
        int done = Integer.parseInt(x.state(3));
        x.damage(0, 30, 1);
        Edges.due("one group is left", 1, x.state(1));
        Edges.due("finish", Edges.STATE, x.finish());
        Edges.due("nothing is written", done, x.state(3));
        Edges.due("not stopped", 0, x.state(4));
        Edges.due("it is begun no more", Edges.STATE, x.append());
        Edges.due("it is begun no more", Edges.STATE, x.finish());
        Edges.due("another may begin", 2, x.create(2));

        Pair y = Edges.start(before);
        Edges.due("finish while they are free", 0, y.finish());
        Edges.due("its first group", 0, y.file(0, 2));

        Pair z = Edges.start(Edges.files(193, 385));
        z.spoil(1);
        z.damage(0, 30, 1);
        Edges.begin(z, 1, 192);
        z.damage(0, 30, 1);
        Edges.due("finish with just one that is left", 0, z.finish());
        Edges.due("its first group", 5, z.file(0, 2));
    }
}
