/** The edges of promises 7 to 9; above each test stands the sentence that it is for. */
public final class ReadingEdgesTest {
    private ReadingEdgesTest() {
    }

    public static void main(String[] args) {
        readFromBothEnds();
        readFromOutside();
        readOfEachLen();
        readOfLenBelow0();
        readOfNoFile();
        readOfAnEmptyFile();
        readWhenStopped();
        readOfWhatIsLost();
        readNamesTheFirstFault();
        readNeedsSegments();
        readNeedsGroups();
        readWritesNothing();
        readOfTheLongestFile();
        outputOfWhatWasRead();
        outputOutside();
        outputBehindAReadOfNothing();
        outputStays();
        verifyOfEachSegment();
        verifyOfNoneBad();
        verifyWhenStopped();
        verifyOfNoFile();
        Edges.end();
    }

    /** A file of 100 bytes, of which bytes 3 .. 12 are told. */
    private static void told(Pair x) {
        Edges.files(100).on(x);
        Edges.due("read", 10, x.read(0, 3, 10));
    }

    // ---- promise 7

    /** "IllegalArgumentException if from is not 0 .. its length": both of them are. */
    private static void readFromBothEnds() {
        Pair x = Edges.start(Edges.files(100));
        Edges.dueBytes(x, 0, 0, 1);
        Edges.dueBytes(x, 0, 99, 1);
        Edges.due("read behind the last byte", 0, x.read(0, 100, 1));
        Edges.due("read nothing behind the last byte", 0, x.read(0, 100, 0));
        Edges.due("read the most behind the last byte", 0, x.read(0, 100, Edges.MOST));
        Edges.due("read nothing at the first byte", 0, x.read(0, 0, 0));
    }

    /** "IllegalArgumentException if from is not 0 .. its length" */
    private static void readFromOutside() {
        for (int from : new int[] {-1, 101, Edges.LEAST, Edges.MOST}) {
            Edges.refused("read from " + from, Edges.ARGUMENT, ReadingEdgesTest::told,
                    x -> x.read(0, from, 1));
            Edges.refused("read nothing from " + from, Edges.ARGUMENT, ReadingEdgesTest::told,
                    x -> x.read(0, from, 0));
        }
    }

    /** "Reads up to len bytes from one on ..: how many there are" */
    private static void readOfEachLen() {
        Pair x = Edges.start(Edges.files(100));
        Edges.due("len 0", 0, x.read(0, 50, 0));
        Edges.due("len 1", 1, x.read(0, 50, 1));
        Edges.due("len of the rest", 50, x.read(0, 50, 50));
        Edges.due("len of one more", 50, x.read(0, 50, 51));
        Edges.due("the most from 0", 100, x.read(0, 0, Edges.MOST));
        Edges.due("the most from 1, which wraps around", 99, x.read(0, 1, Edges.MOST));
        Edges.due("first of them", 7, x.output(0));
        Edges.due("last of them", (7 * 99) & 255, x.output(98));
        Edges.due("none behind them", Edges.INDEX, x.output(99));
    }

    /** "IllegalArgumentException if .. len is below 0" */
    private static void readOfLenBelow0() {
        for (int len : new int[] {-1, Edges.LEAST}) {
            for (int from : new int[] {0, 50, 100}) {
                Edges.refused("read of len " + len, Edges.ARGUMENT, ReadingEdgesTest::told,
                        x -> x.read(0, from, len));
            }
        }
    }

    /** "NoSuchElementException if there is no such file" */
    private static void readOfNoFile() {
        for (int file : new int[] {-1, 1, 3, 4, Edges.LEAST, Edges.MOST}) {
            Edges.refused("read of file " + file, Edges.MISSING, ReadingEdgesTest::told,
                    x -> x.read(file, 0, 1));
        }
        Edges.refused("read of a file that is begun", Edges.MISSING, x -> {
            told(x);
            Edges.begin(x, 1, 20);
        }, x -> x.read(1, 0, 1));
        Edges.refused("read of a file that is deleted", Edges.MISSING, x -> {
            told(x);
            x.delete(0);
        }, x -> x.read(0, 0, 1));
        Pair x = Edges.start(Edges.files(0, 0, 0, 9));
        Edges.dueBytes(x, 3, 0, 9);
    }

    /** "from is not 0 .. its length": of a file of no bytes 0 alone is. */
    private static void readOfAnEmptyFile() {
        Pair x = Edges.start(Edges.files(0));
        Edges.due("read", 0, x.read(0, 0, 0));
        Edges.due("read", 0, x.read(0, 0, 1));
        Edges.due("read", 0, x.read(0, 0, Edges.MOST));
        Edges.due("output", Edges.INDEX, x.output(0));
        Edges.due("from 1", Edges.ARGUMENT, x.read(0, 1, 0));
        Edges.due("from -1", Edges.ARGUMENT, x.read(0, -1, 0));
    }

    /** "IllegalStateException if it is STOPPED" */
    private static void readWhenStopped() {
        Edges.Run before = x -> {
            told(x);
            Edges.stop(x, 0);
        };
        Edges.refused("read when stopped", Edges.STATE, before, x -> x.read(0, 0, 1));
        Edges.refused("read of nothing when stopped", Edges.STATE, before, x -> x.read(0, 0, 0));
        Edges.refused("read at the end when stopped", Edges.STATE, before, x -> x.read(0, 100, 1));
        Pair x = Edges.start(before);
        x.mount();
        Edges.dueBytes(x, 0, 0, 5);
    }

    /** "UnsupportedOperationException if a group is LOST that has a bad segment which is needed" */
    private static void readOfWhatIsLost() {
        Edges.refused("read of what is lost", Edges.LOST, x -> {
            told(x);
            x.spoil(9);
            x.spoil(12);
            x.spoil(13);
        }, x -> x.read(0, 0, 100));
        Edges.refused("read of what is lost behind what is not", Edges.LOST, x -> {
            Edges.files(200).on(x);
            x.read(0, 100, 20);
            x.spoil(14);
            x.spoil(15);
            x.damage(16, 5, 5);
        }, x -> x.read(0, 0, 200));
    }

    /** The face: NoSuchElement-, IllegalArgument-, IllegalState-, UnsupportedOperationException. */
    private static void readNamesTheFirstFault() {
        Pair x = Edges.start(Edges.files(100));
        x.spoil(8);
        x.spoil(12);
        x.spoil(13);
        Edges.due("lost", Edges.LOST, x.read(0, 0, 1));
        Edges.stop(x, 0);
        Edges.due("stopped and lost", Edges.STATE, x.read(0, 0, 1));
        Edges.due("wrong from, and stopped", Edges.ARGUMENT, x.read(0, 101, 1));
        Edges.due("wrong len, and stopped", Edges.ARGUMENT, x.read(0, 0, -1));
        Edges.due("no file, wrong from and stopped", Edges.MISSING, x.read(1, -1, -1));
    }

    /** "a bad segment which is needed": one byte of it is enough, a byte beside it is not. */
    private static void readNeedsSegments() {
        for (int i = 0; i < 4; i++) {
            Pair x = Edges.start(Edges.files(192));
            x.spoil(8 + i);
            x.spoil(12);
            x.spoil(13);
            int first = 48 * i;
            int behind = first + 48;
            Edges.due("all before it", first, x.read(0, 0, first));
            Edges.due("one more", Edges.LOST, x.read(0, 0, first + 1));
            Edges.due("its first byte", Edges.LOST, x.read(0, first, 1));
            Edges.due("its last byte", Edges.LOST, x.read(0, behind - 1, 1));
            Edges.due("all behind it", 192 - behind, x.read(0, behind, 192));
            Edges.due("no byte of it", 0, x.read(0, first, 0));
            Edges.due("no byte of it", 0, x.read(0, behind - 1, 0));
            Edges.due("all", Edges.LOST, x.read(0, 0, 192));
        }
    }

    /** "recovering groups that it needs": a group that is LOST beside them does no harm. */
    private static void readNeedsGroups() {
        Pair x = Edges.start(Edges.files(385));
        for (int block = 14; block < 18; block++) {
            x.spoil(block);
        }
        Edges.dueBytes(x, 0, 180, 12);
        Edges.due("one byte of the second group", Edges.LOST, x.read(0, 180, 13));
        Edges.due("its first byte", Edges.LOST, x.read(0, 192, 1));
        Edges.due("its last byte", Edges.LOST, x.read(0, 383, 2));
        Edges.dueBytes(x, 0, 384, 1);
        Edges.due("the end", 0, x.read(0, 385, 9));
        x.spoil(20);
        Edges.dueBytes(x, 0, 384, 1);
        x.spoil(8);
        x.damage(10, 3, 3);
        Edges.dueBytes(x, 0, 0, 100);
    }

    /** "(nothing is written by it)" */
    private static void readWritesNothing() {
        Edges.Run before = x -> {
            Edges.files(300).on(x);
            x.spoil(9);
            x.damage(14, 0, 9);
            x.damage(18, 0, 9);
            x.stopAfter(0);
            Edges.dueBytes(x, 0, 40, 20);
        };
        Edges.refused("a second read, which recovers", "20", before, x -> x.read(0, 40, 20));
        Pair x = Edges.start(before);
        Edges.dueBytes(x, 0, 180, 30);
        Edges.due("writes", 14, x.state(3));
        Edges.due("not stopped", 0, x.state(4));
        Edges.due("it is not readable still", -1, x.block(9, 0));
        Edges.due("verify", 2, x.verify(0));
    }

    /** All 768 bytes, and each of them told. */
    private static void readOfTheLongestFile() {
        for (int first = 0; first < 768; first += 192) {
            Pair x = Edges.start(Edges.files(768));
            Edges.due("read all", 768, x.read(0, 0, 769));
            for (int i = first; i < first + 192; i++) {
                Edges.due("byte " + i, (7 * i) & 255, x.output(i));
            }
            Edges.due("byte 768", Edges.INDEX, x.output(768));
            Edges.due("from 768", 0, x.read(0, 768, 1));
            Edges.due("from 769", Edges.ARGUMENT, x.read(0, 769, 1));
        }
    }

    // ---- promise 8

    /** "Byte i of what was read last." */
    private static void outputOfWhatWasRead() {
        Pair x = Edges.start(Edges.files(60));
        x.read(0, 10, 50);
        Edges.due("first", 70, x.output(0));
        Edges.due("last", (7 * 59) & 255, x.output(49));
        x.read(0, 0, 2);
        Edges.due("first of the next", 0, x.output(0));
        Edges.due("last of the next", 7, x.output(1));
        Edges.due("what the one before told is gone", Edges.INDEX, x.output(2));

        Pair y = Edges.start(Edges.files());
        y.put(0xFF80007F, 4);
        y.create(1);
        y.append();
        y.finish();
        y.read(0, 0, 4);
        int[] bytes = {255, 128, 0, 127};
        for (int i = 0; i < 4; i++) {
            Edges.due("a byte is 0 .. 255", bytes[i], y.output(i));
        }
    }

    /** "IndexOutOfBoundsException if there is none." */
    private static void outputOutside() {
        for (int i : new int[] {-1, 10, 11, 768, Edges.LEAST, Edges.MOST}) {
            Edges.refused("output(" + i + ")", Edges.INDEX, ReadingEdgesTest::told,
                    x -> x.output(i));
        }
        Edges.refused("output before a read", Edges.INDEX, Edges.files(5), x -> x.output(0));
    }

    /** "IndexOutOfBoundsException if there is none": a read of no bytes tells none. */
    private static void outputBehindAReadOfNothing() {
        Pair x = Edges.start(ReadingEdgesTest::told);
        Edges.due("output", 21, x.output(0));
        Edges.due("read nothing", 0, x.read(0, 5, 0));
        Edges.due("output", Edges.INDEX, x.output(0));
    }

    /** "what was read last": no other call takes it away. */
    private static void outputStays() {
        Pair x = Edges.start(ReadingEdgesTest::told);
        Edges.epoch(x, 2);
        x.rewrap(0);
        x.verify(0);
        x.spoil(8);
        x.scrub(0);
        x.dropEpoch(1);
        Edges.add(x, 4);
        x.delete(0);
        x.stopAfter(0);
        x.delete(1);
        Edges.due("first, when stopped", 21, x.output(0));
        x.mount();
        Edges.due("first, behind mount", 21, x.output(0));
        Edges.due("last, behind mount", 84, x.output(9));
        Edges.due("none", Edges.INDEX, x.output(10));
    }

    // ---- promise 9

    /** "The first bad segment of a file .., plus one" */
    private static void verifyOfEachSegment() {
        Pair x = Edges.start(Edges.files(768));
        for (int i = 15; i >= 0; i--) {
            int block = 8 + 6 * (i / 4) + i % 4;
            if (i % 2 == 0) {
                x.spoil(block);
            } else {
                x.damage(block, 4 * i, 128);
            }
            Edges.due("segments from " + i + " on are bad", i + 1, x.verify(0));
        }
        Pair y = Edges.start(Edges.files(768));
        for (int i = 0; i < 16; i++) {
            int block = 8 + 6 * (i / 4) + i % 4;
            y.damage(block, 63 - i, 1);
            Edges.due("segment " + i + " is bad", i + 1, y.verify(0));
            y.damage(block, 63 - i, 1);
        }
        Edges.due("none is", 0, y.verify(0));
    }

    /** "0 if there is none": parity, and what is behind the last one, are no segments. */
    private static void verifyOfNoneBad() {
        Pair x = Edges.start(Edges.files(0, 49, 192));
        Edges.due("verify of no segments", 0, x.verify(0));
        Edges.due("verify of two", 0, x.verify(1));
        x.damage(10, 0, 1);
        x.spoil(11);
        x.damage(12, 0, 1);
        x.spoil(13);
        Edges.due("what is behind the last one is bad", 0, x.verify(1));
        x.spoil(9);
        Edges.due("the last one is bad", 2, x.verify(1));
        x.spoil(18);
        x.spoil(19);
        Edges.due("parity is not readable", 0, x.verify(2));
        x.spoil(20);
        Edges.due("the next group is not readable", 0, x.verify(2));
    }

    /** "(STOPPED or not)" */
    private static void verifyWhenStopped() {
        Pair x = Edges.start(Edges.files(192));
        Edges.stop(x, 0);
        Edges.due("verify when stopped, none bad", 0, x.verify(0));
        x.spoil(11);
        Edges.due("verify when stopped, the last is bad", 4, x.verify(0));
        Edges.due("verify when stopped, no file", Edges.MISSING, x.verify(1));
        Edges.due("stopped still", 1, x.state(4));
    }

    /** "NoSuchElementException if there is no such file." */
    private static void verifyOfNoFile() {
        for (int file : new int[] {-1, 1, 3, 4, Edges.LEAST, Edges.MOST}) {
            Edges.refused("verify of file " + file, Edges.MISSING, ReadingEdgesTest::told,
                    x -> x.verify(file));
        }
        Pair x = Edges.start(Edges.files(0, 0, 0, 9));
        Edges.due("verify of file 3", 0, x.verify(3));
        x.spoil(8);
        Edges.due("verify of file 3", 1, x.verify(3));
    }
}
