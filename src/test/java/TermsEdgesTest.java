import java.util.Arrays;

/**
 * The edges of the document's terms; above each test stands the sentence that it is for. Keys and
 * nonces are laid out here once more, byte by byte, and opened by the Java library.
 */
public final class TermsEdgesTest {
    private static final int[] SALTS = {0, -1, 0x01020304, 0x80000000};
    private static final int SOUND = 0;
    private static final int UNREADABLE = 1;
    private static final int TURNED = 2;

    private TermsEdgesTest() {
    }

    public static void main(String[] args) {
        headersStandTwice();
        groupsFollowTheHeaders();
        headersKey();
        headersBytes();
        headerOpens();
        headerIsReadable();
        headerIsOfItsFile();
        headerIsOfAKnownEpoch();
        firstGoodHeaderCounts();
        segmentOpens();
        segmentsOfEachLength();
        segmentsOfTheLongestFile();
        parityOfAGroup();
        badBehindTheLastSegment();
        badAndRecovered();
        whatComesFromParity0IsLookedAt();
        writesAreWholeOrNotDone();
        writtenIsReadable();
        stoppedUntilMount();
        callsUpTo512();
        Edges.end();
    }

    private static byte[] blockOf(Pair x, int block) {
        byte[] bytes = new byte[64];
        for (int i = 0; i < 64; i++) {
            bytes[i] = (byte) Integer.parseInt(x.block(block, i));
        }
        return bytes;
    }

    private static byte[] nonce(int... bytes) {
        byte[] nonce = new byte[12];
        for (int i = 0; i < bytes.length; i++) {
            nonce[i] = (byte) bytes[i];
        }
        return nonce;
    }

    private static byte[] fileKey(int file, int salt) {
        byte[] nonce = nonce(3, file, salt >>> 24, salt >>> 16, salt >>> 8, salt);
        return Arrays.copyOf(Crypto.keyBlock(Edges.epochKey(1), nonce), 32);
    }

    private static byte[] saltBytes(int salt) {
        return Arrays.copyOf(nonce(salt >>> 24, salt >>> 16, salt >>> 8, salt), 4);
    }

    private static boolean isZero(byte[] bytes) {
        return Arrays.equals(bytes, new byte[bytes.length]);
    }

    // ---- the cartridge

    /** "The HEADER of file f stands in blocks 2 f and 2 f + 1, twice." */
    private static void headersStandTwice() {
        for (int f = 0; f < 4; f++) {
            Pair x = Edges.start(Edges.files());
            for (int i = 0; i < f; i++) {
                Edges.add(x, 0);
            }
            for (int b = 2 * f; b < 44; b++) {
                x.spoil(b);
            }
            Edges.add(x, 0);
            for (int b = 2 * f; b < 44; b++) {
                boolean isReadable = !x.block(b, 0).equals("-1");
                Edges.due("block " + b + " of file " + f, isReadable == (b / 2 == f));
            }
            byte[] first = blockOf(x, 2 * f);
            Edges.due("both are the same", Arrays.equals(first, blockOf(x, 2 * f + 1)));
            Edges.due("first byte", first[0] == f + 1);
        }
    }

    /** "GROUPS 0 .. 5 follow: group g is blocks 8 + 6 g and up, four DATA blocks, two PARITY" */
    private static void groupsFollowTheHeaders() {
        int[][] before = {{}, {1}, {193}, {385}, {577}, {577, 1}};
        for (int g = 0; g < 6; g++) {
            Pair x = Edges.start(Edges.files(before[g]));
            for (int b = 8; b < 44; b++) {
                x.spoil(b);
            }
            Edges.add(x, 1);
            for (int b = 8; b < 44; b++) {
                boolean isReadable = !x.block(b, 0).equals("-1");
                Edges.due("block " + b + " of group " + g, isReadable == ((b - 8) / 6 == g));
            }
            Edges.due("first group", g, x.file(before[g].length, 2));
            x.spoil(8 + 6 * g + 4);
            x.spoil(8 + 6 * g + 5);
            Edges.due("parity is what stands last", 0, x.verify(before[g].length));
            x.spoil(8 + 6 * g);
            Edges.due("the segment is what stands first", 1, x.verify(before[g].length));
        }
    }

    // ---- headers

    /** "A KEY for a file: .. the nonce 3, file, the salt's 4 bytes (the highest first), 0 .." */
    private static void headersKey() {
        for (int f = 0; f < 4; f++) {
            for (int salt : SALTS) {
                Pair x = Edges.start(Edges.files());
                for (int i = 0; i < f; i++) {
                    Edges.add(x, 0);
                }
                x.create(salt);
                x.finish();
                byte[] block = blockOf(x, 2 * f);
                byte[] nonce = nonce(1, f, 1, 0, salt >>> 24, salt >>> 16, salt >>> 8, salt);
                byte[] key = Crypto.open(Edges.epochKey(1), nonce, Arrays.copyOf(block, 16),
                        Arrays.copyOfRange(block, 16, 64));
                Edges.due("key of file " + f + ", salt " + salt, Arrays.equals(key, fileKey(f, salt)));
            }
        }
    }

    /** "A HEADER is 16 bytes: file + 1, the epoch, the length (2 bytes, the higher first), .." */
    private static void headersBytes() {
        int[] lengths = {0, 1, 255, 256, 257, 511, 512, 767, 768};
        for (int length : lengths) {
            Pair x = Edges.start(Edges.files(length < 600 ? 1 : 0));
            Edges.begin(x, 0xA1B2C3D4, length);
            x.finish();
            int first = length > 0 && length < 600 ? 1 : 0;
            int groups = (length + 191) / 192;
            int[] dues = {2, 1, length / 256, length % 256, first, groups,
                0xA1, 0xB2, 0xC3, 0xD4, 0, 0, 0, 0, 0, 0};
            for (int i = 0; i < 16; i++) {
                Edges.due("byte " + i + " of " + length, dues[i], x.block(2, i));
            }
            Edges.due("length", length, x.file(1, 0));
            Edges.due("groups", groups, x.file(1, 3));
        }
    }

    /** "It is GOOD for file f if .. it opens": not if any of its bits is turned. */
    private static void headerOpens() {
        for (int high = 0; high < 2; high++) {
            Pair x = Edges.start(Edges.files(60));
            x.spoil(1);
            for (int i = 0; i < 64; i++) {
                int bit = 1 << (high == 0 ? i % 4 : 4 + i % 4);
                x.damage(0, i, bit);
                Edges.due("bit of byte " + i + " is turned", Edges.MISSING, x.file(0, 0));
                x.damage(0, i, bit);
                Edges.due("and turned back", 60, x.file(0, 0));
            }
        }
    }

    /** "It is GOOD for file f if its block is readable": if none is, there is no such file. */
    private static void headerIsReadable() {
        for (int f = 0; f < 4; f++) {
            Pair x = Edges.start(Edges.files(1, 2, 3, 4));
            x.spoil(2 * f);
            Edges.due("the first is not readable", f + 1, x.file(f, 0));
            x.spoil(2 * f + 1);
            Edges.due("none is readable", Edges.MISSING, x.file(f, 0));
            Edges.due("files", 3, x.state(0));
            Edges.due("groups free", 3, x.state(1));
            Edges.due("scrub", -1, x.scrub(f));

            Pair y = Edges.start(Edges.files(1, 2, 3, 4));
            y.spoil(2 * f + 1);
            Edges.due("the second is not readable", f + 1, y.file(f, 0));
        }
    }

    /** "the first byte is f + 1": another file's header is not good here, though it opens there. */
    private static void headerIsOfItsFile() {
        Pair other = Edges.start(Edges.files(0, 0));
        byte[] second = blockOf(other, 2);
        Pair x = Edges.start(Edges.files());
        for (int i = 0; i < 64; i++) {
            x.damage(0, i, second[i] & 255);
        }
        Edges.due("header of file 1 at file 0", Edges.MISSING, x.file(0, 0));
        for (int i = 0; i < 64; i++) {
            x.damage(3, i, second[i] & 255);
        }
        Edges.due("header of file 1 at file 1", 0, x.file(1, 0));
        x.damage(0, 0, 1 ^ 2);
        Edges.due("its first byte made that of file 0", Edges.MISSING, x.file(0, 0));
        Edges.due("files", 1, x.state(0));
    }

    /** "the epoch is known (1 .. the present one, not dropped)" */
    private static void headerIsOfAKnownEpoch() {
        Pair later = Edges.start();
        Edges.epoch(later, 1);
        Edges.epoch(later, 2);
        Edges.add(later, 0);
        byte[] header = blockOf(later, 0);
        Pair x = Edges.start();
        for (int i = 0; i < 64; i++) {
            x.damage(1, i, header[i] & 255);
        }
        Edges.due("no epoch", Edges.MISSING, x.file(0, 1));
        Edges.epoch(x, 1);
        Edges.due("one behind the present one", Edges.MISSING, x.file(0, 1));
        Edges.epoch(x, 2);
        Edges.due("the present one", 2, x.file(0, 1));
        Edges.epoch(x, 3);
        Edges.due("one before the present one", 2, x.file(0, 1));
        x.damage(1, 1, 2);
        Edges.due("epoch 0", Edges.MISSING, x.file(0, 1));
        x.damage(1, 1, 255);
        Edges.due("epoch 255", Edges.MISSING, x.file(0, 1));
        Edges.due("drop", 0, x.dropEpoch(2));
        x.damage(1, 1, 255 ^ 2);
        Edges.due("one that is dropped", Edges.MISSING, x.file(0, 1));
        Edges.due("files", 0, x.state(0));
    }

    /** "The first good one of both COUNTS; if none is good there is no such file." */
    private static void firstGoodHeaderCounts() {
        Pair x = Edges.start(Edges.files(60));
        Edges.epoch(x, 2);
        x.stopAfter(1);
        x.rewrap(0);
        x.mount();
        Edges.due("both are good, the first counts", 2, x.file(0, 1));
        x.damage(0, 40, 4);
        Edges.due("the second alone is good", 1, x.file(0, 1));
        x.damage(0, 40, 4);
        x.damage(1, 40, 4);
        Edges.due("the first alone is good", 2, x.file(0, 1));
        x.damage(0, 40, 4);
        Edges.due("none is good", Edges.MISSING, x.file(0, 1));
        Edges.due("read", Edges.MISSING, x.read(0, 0, 1));
        Edges.due("verify", Edges.MISSING, x.verify(0));
        Edges.due("rewrap", Edges.MISSING, x.rewrap(0));
        Edges.due("delete", Edges.MISSING, x.delete(0));
    }

    // ---- segments and parity

    /** "It OPENS if the tag is right.": not if any bit of the text or the tag is turned. */
    private static void segmentOpens() {
        for (int high = 0; high < 2; high++) {
            Pair x = Edges.start(Edges.files(49));
            for (int i = 0; i < 64; i++) {
                int bit = 1 << (high == 0 ? i % 4 : 4 + i % 4);
                x.damage(9, i, bit);
                Edges.due("bit of byte " + i + " is turned", 2, x.verify(0));
                x.damage(9, i, bit);
                Edges.due("and turned back", 0, x.verify(0));
            }
        }
    }

    private static void dueSegment(Pair x, int file, int length, int salt, int i) {
        int segments = (length + 47) / 48;
        byte[] plain = new byte[48];
        for (int k = 48 * i; k < Math.min(length, 48 * i + 48); k++) {
            plain[k - 48 * i] = (byte) (7 * k);
        }
        byte[] block = blockOf(x, 8 + 6 * (i / 4) + i % 4);
        byte[] nonce = nonce(2, file, i, i == segments - 1 ? 1 : 0);
        byte[] got = Crypto.open(fileKey(file, salt), nonce, saltBytes(salt), block);
        Edges.due("segment " + i + " of " + length, got != null && Arrays.equals(got, plain));
    }

    /** "SEGMENT i of a file: bytes 48 i and up, 48 of them, with 0 behind the end, .." */
    private static void segmentsOfEachLength() {
        int[] lengths = {0, 1, 47, 48, 49, 95, 96, 97, 143, 144, 145, 191, 192, 193};
        for (int length : lengths) {
            Pair x = Edges.start(Edges.files());
            Edges.begin(x, SALTS[2], length);
            x.finish();
            int segments = (length + 47) / 48;
            for (int i = 0; i < segments; i++) {
                dueSegment(x, 0, length, SALTS[2], i);
            }
            // A group more than the file has is 0 still, as the cartridge was at first.
            for (int i = segments; i < 4; i++) {
                Edges.due("block behind the last one of " + length, isZero(blockOf(x, 8 + i)));
            }
            Edges.due("verify", 0, x.verify(0));
        }
        Pair x = Edges.start();
        Edges.epoch(x, 1);
        for (int b = 15; b < 18; b++) {
            x.damage(b, 5, 5);
        }
        Edges.begin(x, 1, 193);
        x.finish();
        for (int b = 15; b < 18; b++) {
            Edges.due("data blocks behind the last one are 0", 0, x.block(b, 5));
        }
    }

    /** "Segment i is data block i % 4 of the file's group i / 4": up to segment 15. */
    private static void segmentsOfTheLongestFile() {
        for (int i = 0; i < 16; i++) {
            Pair x = Edges.start(Edges.files());
            Edges.begin(x, SALTS[1], 768);
            x.finish();
            dueSegment(x, 0, 768, SALTS[1], i);
        }
        Pair y = Edges.start(Edges.files(0, 0, 0));
        Edges.begin(y, SALTS[3], 100);
        y.finish();
        for (int i = 0; i < 3; i++) {
            dueSegment(y, 3, 100, SALTS[3], i);
        }
    }

    /** In the field of 256 elements, by the powers of 3. */
    private static int times(int a, int b) {
        int[] powers = new int[255];
        int[] logs = new int[256];
        int power = 1;
        for (int i = 0; i < 255; i++) {
            powers[i] = power;
            logs[power] = i;
            int twice = power << 1;
            power ^= twice > 255 ? twice ^ 0x11B : twice;
        }
        return a == 0 || b == 0 ? 0 : powers[(logs[a] + logs[b]) % 255];
    }

    /** "byte by byte the sum, over data blocks d, of block d times the inverse of .." */
    private static void parityOfAGroup() {
        // The inverses of 2, 3, 4, 5, and for parity 1 those of 3, 2, 5, 4.
        int[][] weights = {{0x8D, 0xF6, 0xCB, 0x52}, {0xF6, 0x8D, 0x52, 0xCB}};
        for (int d = 0; d < 4; d++) {
            Edges.due("an inverse", times(weights[0][d], d + 2) == 1);
        }
        for (int length : new int[] {1, 60, 100, 192}) {
            Pair x = Edges.start(Edges.files(length));
            byte[][] six = new byte[6][];
            for (int i = 0; i < 6; i++) {
                six[i] = blockOf(x, 8 + i);
            }
            for (int p = 0; p < 2; p++) {
                for (int k = 0; k < 64; k++) {
                    int sum = 0;
                    for (int d = 0; d < 4; d++) {
                        sum ^= times(six[d][k] & 255, weights[p][d]);
                    }
                    Edges.due("parity " + p, (six[4 + p][k] & 255) == sum);
                }
            }
        }
    }

    // ---- bad, recovered, lost

    private static void harm(Pair x, int block, int kind, int i) {
        if (kind == UNREADABLE) {
            x.spoil(block);
        } else if (kind == TURNED) {
            x.damage(block, i, 1 << (i % 8));
        }
    }

    /** "BAD is .. one behind the last segment if it is not readable or not 0.": not in any byte. */
    private static void badBehindTheLastSegment() {
        for (int block = 10; block < 12; block++) {
            Pair x = Edges.start(Edges.files(96));
            for (int i = 0; i < 64; i++) {
                x.damage(block, i, 1 << (i % 8));
                Edges.due("a block that is not 0 in byte " + i, 1, x.scrub(0));
                Edges.due("it is then", 0, x.block(block, i));
            }
            x.spoil(block);
            Edges.due("a block that is not readable", 1, x.scrub(0));
            Edges.due("one that is 0", 0, x.scrub(0));
        }
    }

    /**
     * "with one bad data block from parity 0, or, if that is not readable or what comes does not
     * stand for it .., from parity 1 likewise; with two from both; else .. it is LOST": all sets of
     * data blocks, of each kind of harm, with all kinds of harm to parity.
     */
    private static void badAndRecovered() {
        for (int length : new int[] {192, 60}) {
            for (int set = 0; set < 16; set++) {
                for (int kind = UNREADABLE; kind <= TURNED; kind++) {
                    for (int parity = 0; parity < 9; parity++) {
                        recoverOrLose(length, set, kind, parity / 3, parity % 3);
                    }
                }
            }
        }
    }

    private static void recoverOrLose(int length, int set, int kind, int harm0, int harm1) {
        Pair x = Edges.start(Edges.files(length));
        int segments = (length + 47) / 48;
        int firstBad = 0;
        for (int d = 3; d >= 0; d--) {
            if ((set >> d & 1) != 0) {
                harm(x, 8 + d, kind, 3 + 19 * d);
                firstBad = d < segments ? d + 1 : firstBad;
            }
        }
        // The same byte as in data block 0, so that no set of harms undoes itself.
        harm(x, 12, harm0, 3);
        harm(x, 13, harm1, 41);
        int bad = Integer.bitCount(set);
        int sound = (harm0 == SOUND ? 1 : 0) + (harm1 == SOUND ? 1 : 0);
        boolean isLost = bad > 2 || bad == 2 && sound < 2 || bad == 1 && sound < 1;
        String what = "set " + set + " harm " + kind + ", " + harm0 + ", " + harm1;
        Edges.due(what + " verify", firstBad, x.verify(0));
        boolean isRead = firstBad == 0 || !isLost;
        Edges.due(what + " read", isRead ? Integer.toString(length) : Edges.LOST, x.read(0, 0, 192));
        if (isRead) {
            Edges.dueBytes(x, 0, 0, length);
        }
        Edges.due(what + " scrub", isLost ? -1 : bad + 2 - sound, x.scrub(0));
        Edges.due(what + " writes", isLost ? 8 : 10 + bad - sound, x.state(3));
        Edges.due(what + " verify then", isLost ? firstBad : 0, x.verify(0));
        Edges.due(what + " scrub again", isLost ? -1 : 0, x.scrub(0));
    }

    /** "what comes does not stand for it (does not open; is not 0)": one bit is enough. */
    private static void whatComesFromParity0IsLookedAt() {
        for (int bad : new int[] {0, 1, 2, 3}) {
            Pair x = Edges.start(Edges.files(60));
            x.spoil(8 + bad);
            for (int i = 0; i < 64; i++) {
                x.damage(12, i, 1 << (i % 8));
                Edges.due("from parity 1", bad < 2 ? bad + 1 : 0, x.verify(0));
                Edges.due("both are written", 2, x.scrub(0));
                Edges.due("all is right", 0, x.scrub(0));
                x.spoil(8 + bad);
            }
        }
    }

    // ---- writes

    /** "WRITES of blocks are whole or not done .. (those before it stay done)" */
    private static void writesAreWholeOrNotDone() {
        Pair x = Edges.start(Edges.files(60));
        byte[] header = blockOf(x, 1);
        x.stopAfter(1);
        Edges.due("delete", Edges.STATE, x.delete(0));
        Edges.due("the first is wholly written", isZero(blockOf(x, 0)));
        Edges.due("the second is not at all", Arrays.equals(header, blockOf(x, 1)));
        x.mount();
        Edges.due("the first is wholly written", isZero(blockOf(x, 0)));
        Edges.due("the second is not at all", Arrays.equals(header, blockOf(x, 1)));
    }

    /** "A written block is readable." */
    private static void writtenIsReadable() {
        Pair x = Edges.start(Edges.files());
        for (int b = 0; b < 44; b++) {
            x.spoil(b);
        }
        Edges.begin(x, 1, 577);
        x.finish();
        for (int b = 0; b < 44; b++) {
            boolean isReadable = !x.block(b, 63).equals("-1");
            Edges.due("block " + b, isReadable == (b < 2 || b >= 8 && b < 32));
        }
    }

    /** "the next one is not done ..; it is STOPPED from then on until mount()." */
    private static void stoppedUntilMount() {
        Pair x = Edges.start(Edges.files(60, 0));
        x.spoil(9);
        x.stopAfter(0);
        Edges.due("not stopped before the next one", 0, x.state(4));
        Edges.due("scrub", Edges.STATE, x.scrub(0));
        Edges.due("stopped", 1, x.state(4));
        Edges.fill(x, 32, 1);
        Edges.due("epoch", Edges.STATE, x.epoch());
        Edges.due("create", Edges.STATE, x.create(1));
        Edges.due("append", Edges.STATE, x.append());
        Edges.due("finish", Edges.STATE, x.finish());
        Edges.due("read", Edges.STATE, x.read(0, 0, 1));
        Edges.due("rewrap", Edges.STATE, x.rewrap(0));
        Edges.due("delete", Edges.STATE, x.delete(0));
        Edges.due("scrub", Edges.STATE, x.scrub(5));
        Edges.due("verify", 2, x.verify(0));
        Edges.due("file", 60, x.file(0, 0));
        Edges.due("block", 1, x.block(0, 0));
        Edges.due("spoil", 0, x.spoil(8));
        Edges.due("damage", 0, x.damage(9, 0, 1));
        Edges.due("stopped still", 1, x.state(4));
        Edges.due("writes", 10, x.state(3));
        Edges.due("mount", 2, x.mount());
        Edges.due("not stopped", 0, x.state(4));
        Edges.due("scrub", 2, x.scrub(0));
        Edges.due("the buffer has stayed", 32, x.state(5));
        Edges.due("epoch", 2, x.epoch());
        Edges.due("rewrap", 1, x.rewrap(0));
        Edges.dueBytes(x, 0, 0, 60);
    }

    /** What it is: "An object is used for at most 512 calls after it has been made" */
    private static void callsUpTo512() {
        Pair x = Edges.start(Edges.files(577));
        int writes = 26;
        while (x.calls.size() < 506) {
            x.spoil(8);
            x.spoil(11);
            Edges.due("scrub", 2, x.scrub(0));
            writes += 2;
        }
        while (x.calls.size() < 510) {
            Edges.due("epoch without a key", Edges.STATE, x.epoch());
        }
        Edges.due("call 511", 577, x.read(0, 0, 768));
        Edges.due("call 512", writes, x.state(3));
        Edges.due("calls", x.calls.size() == 512);
    }
}
