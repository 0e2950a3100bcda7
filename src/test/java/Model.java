import java.nio.ByteBuffer;
import java.util.ArrayList;
import java.util.Arrays;
import java.util.List;
import java.util.NoSuchElementException;

/** The document again, written without a look at speed: the tests hold the program against it. */
final class Model {
    record Header(int file, int epoch, int length, int first, int groups, int salt, byte[] key) {
        int segments() {
            return (length + 47) / 48;
        }

        boolean has(int group) {
            return group >= first && group < first + groups;
        }
    }

    private static final class Stop extends Exception {
        private static final long serialVersionUID = 1L;
    }

    final byte[][] tape = new byte[44][64];
    final boolean[] unreadable = new boolean[44];
    final List<byte[]> epochKeys = new ArrayList<>();
    private byte[] buffer = new byte[0];
    private byte[] begun;
    private int begunFile;
    private int begunSalt;
    private byte[] told = new byte[0];
    private int writes;
    private int writesLeft = -1;
    private boolean stopped;

    boolean put(int word, int n) {
        if (n < 1 || n > 4 || buffer.length + n > 192) {
            return false;
        }
        byte[] all = ByteBuffer.allocate(4).putInt(word).array();
        buffer = join(buffer, Arrays.copyOfRange(all, 4 - n, 4));
        return true;
    }

    int epoch() {
        need(buffer.length == 32 && epochKeys.size() < 9 && !stopped);
        epochKeys.add(buffer);
        buffer = new byte[0];
        return epochKeys.size();
    }

    int create(int salt) {
        need(!epochKeys.isEmpty() && begun == null && !stopped);
        for (int f = 0; f < 4; f++) {
            if (header(f) == null) {
                begun = new byte[0];
                begunFile = f;
                begunSalt = salt;
                return f;
            }
        }
        throw new IllegalStateException();
    }

    int append() {
        need(begun != null && !stopped);
        byte[] longer = join(begun, buffer);
        need(longer.length <= 768 && firstFree((longer.length + 191) / 192) >= 0);
        begun = longer;
        buffer = new byte[0];
        return begun.length;
    }

    int finish() {
        need(begun != null && !stopped);
        byte[] all = begun;
        begun = null;
        int groups = (all.length + 191) / 192;
        int first = firstFree(groups);
        need(first >= 0);
        byte[] nonce = nonce(3, begunFile, 0, 0);
        ByteBuffer.wrap(nonce).putInt(2, begunSalt);
        byte[] key = Arrays.copyOf(Crypto.keyBlock(presentKey(), nonce), 32);
        Header h = new Header(begunFile, epochKeys.size(), all.length, first, groups, begunSalt, key);
        try {
            for (int g = 0; g < groups; g++) {
                byte[][] six = new byte[6][64];
                for (int d = 0; d < 4 && 4 * g + d < h.segments(); d++) {
                    int i = 4 * g + d;
                    byte[] plain = Arrays.copyOfRange(all, 48 * i, 48 * i + 48);
                    six[d] = Crypto.seal(key, segmentNonce(h, i), saltBytes(h.salt), plain);
                }
                six[4] = parity(six, 0);
                six[5] = parity(six, 1);
                for (int j = 0; j < 6; j++) {
                    write(8 + 6 * (first + g) + j, six[j]);
                }
            }
            writeHeader(h);
        } catch (Stop e) {
            throw new IllegalStateException();
        }
        return begunFile;
    }

    int read(int file, int from, int len) {
        Header h = existing(file);
        if (from < 0 || from > h.length || len < 0) {
            throw new IllegalArgumentException();
        }
        need(!stopped);
        int count = Math.min(len, h.length - from);
        byte[] out = new byte[count];
        for (int i = from / 48; count > 0 && i <= (from + count - 1) / 48; i++) {
            byte[] sealed = dataBlock(h, i);
            if (sealed == null || !stands(h, i, sealed)) {
                byte[][] group = recovered(h, i / 4);
                if (group == null) {
                    throw new UnsupportedOperationException();
                }
                sealed = group[i % 4];
            }
            byte[] plain = Crypto.open(h.key, segmentNonce(h, i), saltBytes(h.salt), sealed);
            for (int k = 0; k < 48; k++) {
                int at = 48 * i + k - from;
                if (at >= 0 && at < count) {
                    out[at] = plain[k];
                }
            }
        }
        told = out;
        return count;
    }

    int output(int i) {
        if (i < 0 || i >= told.length) {
            throw new IndexOutOfBoundsException();
        }
        return told[i] & 255;
    }

    int verify(int file) {
        Header h = existing(file);
        for (int i = 0; i < h.segments(); i++) {
            byte[] sealed = dataBlock(h, i);
            if (sealed == null || !stands(h, i, sealed)) {
                return i + 1;
            }
        }
        return 0;
    }

    boolean rewrap(int file) {
        Header h = existing(file);
        need(!stopped);
        if (h.epoch == epochKeys.size()) {
            return false;
        }
        try {
            writeHeader(new Header(file, epochKeys.size(), h.length, h.first, h.groups, h.salt, h.key));
        } catch (Stop e) {
            throw new IllegalStateException();
        }
        return true;
    }

    void dropEpoch(int e) {
        if (!known(e) || e == epochKeys.size()) {
            throw new IllegalArgumentException();
        }
        for (int f = 0; f < 4; f++) {
            Header h = header(f);
            need(h == null || h.epoch != e);
        }
        need(!stopped);
        epochKeys.set(e - 1, null);
    }

    void delete(int file) {
        existing(file);
        try {
            write(2 * file, new byte[64]);
            write(2 * file + 1, new byte[64]);
        } catch (Stop e) {
            throw new IllegalStateException();
        }
    }

    int scrub(int group) {
        if (group < 0 || group > 5) {
            throw new IllegalArgumentException();
        }
        need(!stopped);
        Header h = owner(group);
        byte[][] right = h == null ? null : recovered(h, group - h.first);
        if (right == null) {
            return -1;
        }
        int before = writes;
        try {
            for (int j = 0; j < 6; j++) {
                int block = 8 + 6 * group + j;
                byte[] due = j < 4 ? right[j] : parity(right, j - 4);
                if (unreadable[block] || !Arrays.equals(tape[block], due)) {
                    write(block, due);
                }
            }
        } catch (Stop e) {
            throw new IllegalStateException();
        }
        return writes - before;
    }

    void damage(int block, int i, int mask) {
        checkByte(block, i);
        if (mask < 0 || mask > 255) {
            throw new IllegalArgumentException();
        }
        tape[block][i] ^= (byte) mask;
    }

    void spoil(int block) {
        checkByte(block, 0);
        unreadable[block] = true;
    }

    void stopAfter(int n) {
        if (n > 100) {
            throw new IllegalArgumentException();
        }
        writesLeft = n < 0 ? -1 : n;
    }

    int mount() {
        stopped = false;
        writesLeft = -1;
        begun = null;
        return state(0);
    }

    int file(int file, int what) {
        Header h = existing(file);
        return switch (what) {
            case 0 -> h.length;
            case 1 -> h.epoch;
            case 2 -> h.groups == 0 ? 0 : h.first;
            case 3 -> h.groups;
            default -> throw new IllegalArgumentException();
        };
    }

    int block(int block, int i) {
        checkByte(block, i);
        return unreadable[block] ? -1 : tape[block][i] & 255;
    }

    int state(int what) {
        int count = 0;
        switch (what) {
            case 0:
                for (int f = 0; f < 4; f++) {
                    count += header(f) != null ? 1 : 0;
                }
                return count;
            case 1:
                for (int g = 0; g < 6; g++) {
                    count += owner(g) == null ? 1 : 0;
                }
                return count;
            case 2:
                return epochKeys.size();
            case 3:
                return writes;
            case 4:
                return stopped ? 1 : 0;
            case 5:
                return buffer.length;
            default:
                throw new IllegalArgumentException();
        }
    }

    /** Null if there is no such file. */
    Header header(int f) {
        for (int block = 2 * f; f >= 0 && f < 4 && block < 2 * f + 2; block++) {
            byte[] b = tape[block];
            if (unreadable[block] || b[0] != f + 1 || !known(b[1] & 255)) {
                continue;
            }
            int salt = ByteBuffer.wrap(b).getInt(6);
            byte[] key = Crypto.open(epochKeys.get(b[1] - 1), headerNonce(f, b[1], salt),
                    Arrays.copyOf(b, 16), Arrays.copyOfRange(b, 16, 64));
            if (key != null) {
                int length = (b[2] & 255) * 256 + (b[3] & 255);
                return new Header(f, b[1], length, b[4] & 255, b[5] & 255, salt, key);
            }
        }
        return null;
    }

    byte[] headerBlock(Header h) {
        byte[] b = new byte[16];
        b[0] = (byte) (h.file + 1);
        b[1] = (byte) h.epoch;
        b[2] = (byte) (h.length / 256);
        b[3] = (byte) h.length;
        b[4] = (byte) h.first;
        b[5] = (byte) h.groups;
        ByteBuffer.wrap(b).putInt(6, h.salt);
        byte[] nonce = headerNonce(h.file, h.epoch, h.salt);
        return join(b, Crypto.seal(epochKeys.get(h.epoch - 1), nonce, b, h.key));
    }

    private void writeHeader(Header h) throws Stop {
        byte[] block = headerBlock(h);
        write(2 * h.file, block);
        write(2 * h.file + 1, block);
    }

    private void write(int block, byte[] bytes) throws Stop {
        if (stopped || writesLeft == 0) {
            stopped = true;
            throw new Stop();
        }
        writesLeft = writesLeft < 0 ? -1 : writesLeft - 1;
        tape[block] = bytes.clone();
        unreadable[block] = false;
        writes++;
    }

    /** The four data blocks as they should be, or null if the group is lost. */
    private byte[][] recovered(Header h, int place) {
        byte[][] data = new byte[4][];
        List<Integer> bad = new ArrayList<>();
        for (int d = 0; d < 4; d++) {
            data[d] = dataBlock(h, 4 * place + d);
            if (data[d] == null || !stands(h, 4 * place + d, data[d])) {
                bad.add(d);
                data[d] = new byte[64];
            }
        }
        if (bad.isEmpty()) {
            return data;
        }
        if (bad.size() > 2 || place >= h.groups || h.first + place > 5) {
            return null;
        }
        int base = 8 + 6 * (h.first + place) + 4;
        if (bad.size() == 2) {
            boolean both = !unreadable[base] && !unreadable[base + 1];
            return both && fromBoth(h, place, data, bad, base) ? data : null;
        }
        int d = bad.get(0);
        for (int p = 0; p < 2; p++) {
            byte[] rest = xor(parity(zeroAt(data, d), p), tape[base + p]);
            data[d] = new byte[64];
            for (int k = 0; k < 64; k++) {
                data[d][k] = (byte) times(rest[k] & 255, p ^ (d + 2));
            }
            if (!unreadable[base + p] && stands(h, 4 * place + d, data[d])) {
                return data;
            }
        }
        return null;
    }

    /** Each value is tried for the one bad byte: parity 0 gives the other, parity 1 tells. */
    private boolean fromBoth(Header h, int place, byte[][] data, List<Integer> bad, int base) {
        int a = bad.get(0);
        int b = bad.get(1);
        byte[] rest0 = xor(parity(data, 0), tape[base]);
        byte[] rest1 = xor(parity(data, 1), tape[base + 1]);
        for (int k = 0; k < 64; k++) {
            for (int v = 0; v < 256; v++) {
                int w = times((rest0[k] & 255) ^ times(v, weight(0, a)), b + 2);
                if ((times(v, weight(1, a)) ^ times(w, weight(1, b))) == (rest1[k] & 255)) {
                    data[a][k] = (byte) v;
                    data[b][k] = (byte) w;
                }
            }
        }
        return stands(h, 4 * place + a, data[a]) && stands(h, 4 * place + b, data[b]);
    }

    private static byte[][] zeroAt(byte[][] data, int d) {
        byte[][] copy = data.clone();
        copy[d] = new byte[64];
        return copy;
    }

    /** Null if it is not readable, or not there. */
    private byte[] dataBlock(Header h, int i) {
        int group = h.first + i / 4;
        if (i / 4 >= h.groups || group > 5 || unreadable[8 + 6 * group + i % 4]) {
            return null;
        }
        return tape[8 + 6 * group + i % 4].clone();
    }

    private static boolean stands(Header h, int i, byte[] block) {
        if (i >= h.segments()) {
            return Arrays.equals(block, new byte[64]);
        }
        return Crypto.open(h.key, segmentNonce(h, i), saltBytes(h.salt), block) != null;
    }

    private int firstFree(int groups) {
        for (int first = 0; first + groups <= 6; first++) {
            boolean free = true;
            for (int g = first; g < first + groups; g++) {
                free &= owner(g) == null;
            }
            if (free) {
                return first;
            }
        }
        return -1;
    }

    private Header owner(int group) {
        for (int f = 0; f < 4; f++) {
            Header h = header(f);
            if (h != null && h.has(group)) {
                return h;
            }
        }
        return null;
    }

    private Header existing(int file) {
        Header h = header(file);
        if (h == null) {
            throw new NoSuchElementException();
        }
        return h;
    }

    private boolean known(int e) {
        return e >= 1 && e <= epochKeys.size() && epochKeys.get(e - 1) != null;
    }

    private byte[] presentKey() {
        return epochKeys.get(epochKeys.size() - 1);
    }

    static byte[] parity(byte[][] data, int p) {
        byte[] sum = new byte[64];
        for (int d = 0; d < 4; d++) {
            for (int k = 0; k < 64; k++) {
                sum[k] ^= (byte) times(data[d][k] & 255, weight(p, d));
            }
        }
        return sum;
    }

    private static final int[] WEIGHTS = new int[8];

    private static int weight(int p, int d) {
        int x = p ^ (d + 2);
        for (int y = 1; y < 256 && WEIGHTS[x] == 0; y++) {
            WEIGHTS[x] = times(x, y) == 1 ? y : 0;
        }
        return WEIGHTS[x];
    }

    static int times(int a, int b) {
        int wide = 0;
        for (int bit = 0; bit < 8; bit++) {
            wide ^= (b >> bit & 1) * (a << bit);
        }
        for (int bit = 14; bit >= 8; bit--) {
            wide ^= (wide >> bit & 1) * (0x11B << (bit - 8));
        }
        return wide;
    }

    private static byte[] nonce(int use, int file, int third, int fourth) {
        byte[] nonce = new byte[12];
        nonce[0] = (byte) use;
        nonce[1] = (byte) file;
        nonce[2] = (byte) third;
        nonce[3] = (byte) fourth;
        return nonce;
    }

    private static byte[] headerNonce(int file, int epoch, int salt) {
        byte[] nonce = nonce(1, file, epoch, 0);
        ByteBuffer.wrap(nonce).putInt(4, salt);
        return nonce;
    }

    private static byte[] segmentNonce(Header h, int i) {
        return nonce(2, h.file, i, i == h.segments() - 1 ? 1 : 0);
    }

    private static byte[] saltBytes(int salt) {
        return ByteBuffer.allocate(4).putInt(salt).array();
    }

    private static byte[] xor(byte[] a, byte[] b) {
        byte[] c = new byte[64];
        for (int k = 0; k < 64; k++) {
            c[k] = (byte) (a[k] ^ b[k]);
        }
        return c;
    }

    private static byte[] join(byte[] a, byte[] b) {
        byte[] c = Arrays.copyOf(a, a.length + b.length);
        System.arraycopy(b, 0, c, a.length, b.length);
        return c;
    }

    private static void checkByte(int block, int i) {
        if (block < 0 || block > 43 || i < 0 || i > 63) {
            throw new IllegalArgumentException();
        }
    }

    private static void need(boolean holds) {
        if (!holds) {
            throw new IllegalStateException();
        }
    }
}
