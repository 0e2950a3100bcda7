import java.util.Arrays;
import java.util.NoSuchElementException;

/**
 * Sealed cartridges: files in sealed segments, their keys in headers, two parity blocks to four
 * data blocks. README.md says how to use it. A byte is held as an int of 0 .. 255 everywhere.
 */
public final class TapeSealer {
    private static final int NONE = -1;
    private static final int FILES = 4;
    private static final int GROUPS = 6;
    private static final int DATA_BLOCKS = 4;
    private static final int GROUP_BLOCKS = 6;
    private static final int HEADER_BLOCKS = 8;
    private static final int BLOCKS = 44;
    private static final int BLOCK_BYTES = 64;
    private static final int HEADER_BYTES = 16;
    private static final int SALT_AT = 6;
    private static final int SALT_BYTES = 4;
    private static final int SEGMENT_BYTES = 48;
    private static final int GROUP_BYTES = 192;
    /** In each sealed block, a header's or a segment's, the tag is what stands last. */
    private static final int TAG_AT = 48;
    private static final int TAG_BYTES = 16;
    private static final int KEY_BYTES = 32;
    private static final int NONCE_BYTES = 12;
    private static final int BUFFER_BYTES = 192;
    private static final int FILE_BYTES = 768;
    /** More than FILE_BYTES: a header forged by damage() may claim all groups. */
    private static final int READ_BYTES = 1152;
    private static final int EPOCHS = 9;
    private static final int MOST_WRITES = 100;

    private static final int HEADER_USE = 1;
    private static final int SEGMENT_USE = 2;
    private static final int KEY_USE = 3;

    /** The columns and diagonals of a ChaCha20 double round, four places each. */
    private static final int[] QUARTERS = {
        0, 4, 8, 12, 1, 5, 9, 13, 2, 6, 10, 14, 3, 7, 11, 15,
        0, 5, 10, 15, 1, 6, 11, 12, 2, 7, 8, 13, 3, 4, 9, 14};
    private static final int[] CIPHER_WORDS = {0x61707865, 0x3320646e, 0x79622d32, 0x6b206574};

    /** Inverses, in the field of 256 elements, of 2 .. 5, the only ones that parity asks for. */
    private static final int[] INVERSES = {0, 1, 0x8D, 0xF6, 0xCB, 0x52};

    private final Cartridge tape;
    private final Epochs epochs;
    private final Sealing sealing;
    private final Stripe stripe;
    private final Label[] labels;
    private final Label fresh;
    private final int[] headerRow;
    private final int[] zeroRow;
    private final int[] text;
    private final Draft draft;
    private final int[] buffer;
    private int buffered;
    private final int[] told;
    private final int[] gathered;
    private int toldLength;

    public TapeSealer() {
        tape = new Cartridge();
        epochs = new Epochs();
        sealing = new Sealing();
        stripe = new Stripe(tape, sealing);
        labels = new Label[FILES];
        for (int f = 0; f < FILES; f++) {
            labels[f] = new Label(f);
        }
        fresh = new Label(0);
        headerRow = new int[BLOCK_BYTES];
        zeroRow = new int[BLOCK_BYTES];
        text = new int[SEGMENT_BYTES];
        draft = new Draft();
        buffer = new int[BUFFER_BYTES];
        told = new int[READ_BYTES];
        gathered = new int[READ_BYTES];
    }

    public boolean put(int word, int n) {
        if (n < 1 || n > 4 || buffered + n > BUFFER_BYTES) {
            return false;
        }
        for (int i = n - 1; i >= 0; i--) {
            buffer[buffered] = (word >>> (8 * i)) & 0xFF;
            buffered++;
        }
        return true;
    }

    public int epoch() throws IllegalStateException {
        if (buffered != KEY_BYTES || epochs.present >= EPOCHS || tape.stopped) {
            throw new IllegalStateException();
        }
        epochs.begin(buffer);
        buffered = 0;
        tape.headersChanged = true;
        return epochs.present;
    }

    public int create(int salt) throws IllegalStateException {
        lookAtHeaders();
        int number = leastMissing();
        if (epochs.present == 0 || draft.file != NONE || number == NONE || tape.stopped) {
            throw new IllegalStateException();
        }
        draft.file = number;
        draft.salt = salt;
        draft.length = 0;
        return number;
    }

    public int append() throws IllegalStateException {
        lookAtHeaders();
        int length = draft.length + buffered;
        if (draft.file == NONE || tape.stopped || length > FILE_BYTES
                || firstFree(groupsFor(length)) == NONE) {
            throw new IllegalStateException();
        }
        System.arraycopy(buffer, 0, draft.bytes, draft.length, buffered);
        draft.length = length;
        buffered = 0;
        return length;
    }

    public int finish() throws IllegalStateException {
        if (draft.file == NONE || tape.stopped) {
            throw new IllegalStateException();
        }
        lookAtHeaders();
        int number = draft.file;
        boolean written = placeDraft() && writeGroups() && writeHeader(fresh);
        draft.file = NONE;
        if (!written) {
            throw new IllegalStateException();
        }
        return number;
    }

    public int read(int file, int from, int len) throws NoSuchElementException,
            IllegalArgumentException, IllegalStateException, UnsupportedOperationException {
        lookAtHeaders();
        if (!exists(file)) {
            throw new NoSuchElementException();
        }
        Label label = labels[file];
        if (from < 0 || from > label.length || len < 0) {
            throw new IllegalArgumentException();
        }
        if (tape.stopped) {
            throw new IllegalStateException();
        }
        int end = from + Math.min(len, label.length - from);
        for (int place = from / GROUP_BYTES; from < end && place * GROUP_BYTES < end; place++) {
            if (!gatherGroup(label, place, from, end)) {
                throw new UnsupportedOperationException();
            }
        }
        toldLength = end - from;
        System.arraycopy(gathered, 0, told, 0, toldLength);
        return toldLength;
    }

    public int output(int i) throws IndexOutOfBoundsException {
        if (i < 0 || i >= toldLength) {
            throw new IndexOutOfBoundsException();
        }
        return told[i];
    }

    public int verify(int file) throws NoSuchElementException {
        lookAtHeaders();
        if (!exists(file)) {
            throw new NoSuchElementException();
        }
        Label label = labels[file];
        int segments = label.segments();
        for (int i = 0; i < segments; i++) {
            if (i % DATA_BLOCKS == 0 && !stripe.load(label, i / DATA_BLOCKS)) {
                return i + 1;
            }
            if (stripe.bad[i % DATA_BLOCKS]) {
                return i + 1;
            }
        }
        return 0;
    }

    public boolean rewrap(int file) throws NoSuchElementException, IllegalStateException {
        lookAtHeaders();
        if (!exists(file)) {
            throw new NoSuchElementException();
        }
        if (tape.stopped) {
            throw new IllegalStateException();
        }
        Label label = labels[file];
        if (label.epoch == epochs.present) {
            return false;
        }
        label.epoch = epochs.present;
        // The label runs ahead of its header if no write is done, so it must be read again.
        tape.headersChanged = true;
        if (!writeHeader(label)) {
            throw new IllegalStateException();
        }
        return true;
    }

    public void dropEpoch(int e) throws IllegalArgumentException, IllegalStateException {
        if (!epochs.known(e) || e == epochs.present) {
            throw new IllegalArgumentException();
        }
        lookAtHeaders();
        if (tape.stopped || isUsed(e)) {
            throw new IllegalStateException();
        }
        epochs.forget(e);
        tape.headersChanged = true;
    }

    public void delete(int file) throws NoSuchElementException, IllegalStateException {
        lookAtHeaders();
        if (!exists(file)) {
            throw new NoSuchElementException();
        }
        if (!writeTwice(file, zeroRow)) {
            throw new IllegalStateException();
        }
    }

    public int scrub(int group) throws IllegalArgumentException, IllegalStateException {
        if (group < 0 || group >= GROUPS) {
            throw new IllegalArgumentException();
        }
        if (tape.stopped) {
            throw new IllegalStateException();
        }
        lookAtHeaders();
        int owner = ownerOf(group);
        if (owner == NONE) {
            return -1;
        }
        Label label = labels[owner];
        int place = group - label.first;
        if (!stripe.load(label, place) || !stripe.recover(label, place)) {
            return -1;
        }
        int written = stripe.repair();
        if (tape.stopped) {
            throw new IllegalStateException();
        }
        return written;
    }

    public void damage(int block, int i, int mask) throws IllegalArgumentException {
        if (!isByte(block, i) || mask < 0 || mask > 255) {
            throw new IllegalArgumentException();
        }
        tape.rows[block][i] ^= mask;
        tape.noteChange(block);
    }

    public void spoil(int block) throws IllegalArgumentException {
        if (!isByte(block, 0)) {
            throw new IllegalArgumentException();
        }
        tape.spoiled[block] = true;
        tape.noteChange(block);
    }

    public void stopAfter(int writes) throws IllegalArgumentException {
        if (writes > MOST_WRITES) {
            throw new IllegalArgumentException();
        }
        tape.writesLeft = Math.max(writes, NONE);
    }

    public int mount() {
        tape.stopped = false;
        tape.writesLeft = NONE;
        draft.file = NONE;
        lookAtHeaders();
        return countFiles();
    }

    public int file(int file, int what) throws NoSuchElementException, IllegalArgumentException {
        lookAtHeaders();
        if (!exists(file)) {
            throw new NoSuchElementException();
        }
        Label label = labels[file];
        switch (what) {
            case 0:
                return label.length;
            case 1:
                return label.epoch;
            case 2:
                return label.groups == 0 ? 0 : label.first;
            case 3:
                return label.groups;
            default:
                throw new IllegalArgumentException();
        }
    }

    public int block(int block, int i) throws IllegalArgumentException {
        if (!isByte(block, i)) {
            throw new IllegalArgumentException();
        }
        return tape.spoiled[block] ? -1 : tape.rows[block][i];
    }

    public int state(int what) throws IllegalArgumentException {
        lookAtHeaders();
        switch (what) {
            case 0:
                return countFiles();
            case 1:
                return countFree();
            case 2:
                return epochs.present;
            case 3:
                return tape.writesDone;
            case 4:
                return tape.stopped ? 1 : 0;
            case 5:
                return buffered;
            default:
                throw new IllegalArgumentException();
        }
    }

    private static boolean isByte(int block, int i) {
        return block >= 0 && block < BLOCKS && i >= 0 && i < BLOCK_BYTES;
    }

    private static int groupsFor(int length) {
        return (length + GROUP_BYTES - 1) / GROUP_BYTES;
    }

    /** Opening headers is dear, so what they say is kept until one of them may say another thing. */
    private void lookAtHeaders() {
        if (!tape.headersChanged) {
            return;
        }
        for (int f = 0; f < FILES; f++) {
            labels[f].good = counts(labels[f], 2 * f) || counts(labels[f], 2 * f + 1);
        }
        tape.headersChanged = false;
    }

    private boolean counts(Label label, int block) {
        int[] row = tape.rows[block];
        if (tape.spoiled[block] || row[0] != label.file + 1 || !epochs.known(row[1])) {
            return false;
        }
        return sealing.openHeader(label, epochs.keys[row[1]], row);
    }

    private boolean exists(int file) {
        return file >= 0 && file < FILES && labels[file].good;
    }

    private int leastMissing() {
        for (int f = 0; f < FILES; f++) {
            if (!labels[f].good) {
                return f;
            }
        }
        return NONE;
    }

    private int countFiles() {
        int count = 0;
        for (int f = 0; f < FILES; f++) {
            count += labels[f].good ? 1 : 0;
        }
        return count;
    }

    private boolean isUsed(int epoch) {
        for (int f = 0; f < FILES; f++) {
            if (labels[f].good && labels[f].epoch == epoch) {
                return true;
            }
        }
        return false;
    }

    private int ownerOf(int group) {
        for (int f = 0; f < FILES; f++) {
            if (labels[f].hasGroup(group)) {
                return f;
            }
        }
        return NONE;
    }

    private int countFree() {
        int count = 0;
        for (int g = 0; g < GROUPS; g++) {
            count += ownerOf(g) == NONE ? 1 : 0;
        }
        return count;
    }

    private int firstFree(int groups) {
        if (groups == 0) {
            return 0;
        }
        int run = 0;
        for (int g = 0; g < GROUPS; g++) {
            run = ownerOf(g) == NONE ? run + 1 : 0;
            if (run == groups) {
                return g - groups + 1;
            }
        }
        return NONE;
    }

    /** The key is made here and not by create(): the epoch that counts is the one of the writing. */
    private boolean placeDraft() {
        int groups = groupsFor(draft.length);
        int first = firstFree(groups);
        if (first == NONE) {
            return false;
        }
        fresh.file = draft.file;
        fresh.epoch = epochs.present;
        fresh.length = draft.length;
        fresh.first = first;
        fresh.groups = groups;
        fresh.salt = draft.salt;
        sealing.makeKey(fresh, epochs.keys[epochs.present]);
        return true;
    }

    private boolean writeGroups() {
        for (int place = 0; place < fresh.groups; place++) {
            for (int d = 0; d < DATA_BLOCKS; d++) {
                fillData(place * DATA_BLOCKS + d, stripe.rows[d]);
            }
            stripe.fillParity();
            if (!stripe.writeAll(fresh.first + place)) {
                return false;
            }
        }
        return true;
    }

    private void fillData(int segment, int[] row) {
        Arrays.fill(row, 0);
        if (segment >= fresh.segments()) {
            return;
        }
        int from = segment * SEGMENT_BYTES;
        int count = Math.min(SEGMENT_BYTES, draft.length - from);
        System.arraycopy(draft.bytes, from, row, 0, count);
        sealing.sealSegment(fresh, segment, row);
    }

    private boolean writeHeader(Label label) {
        sealing.sealHeader(label, epochs.keys[label.epoch], headerRow);
        return writeTwice(label.file, headerRow);
    }

    private boolean writeTwice(int file, int[] row) {
        return tape.store(2 * file, row) && tape.store(2 * file + 1, row);
    }

    /** Bytes from .. end - 1 of a file, those that stand in one of its groups, come to gathered. */
    private boolean gatherGroup(Label label, int place, int from, int end) {
        if (!stripe.load(label, place)) {
            return false;
        }
        int base = place * DATA_BLOCKS;
        int first = Math.max(base, from / SEGMENT_BYTES);
        int last = Math.min(base + DATA_BLOCKS - 1, (end - 1) / SEGMENT_BYTES);
        boolean needsRecovery = false;
        for (int i = first; i <= last; i++) {
            needsRecovery |= stripe.bad[i - base];
        }
        if (needsRecovery && !stripe.recover(label, place)) {
            return false;
        }
        for (int i = first; i <= last; i++) {
            sealing.uncoverSegment(label, i, stripe.rows[i - base], text);
            int start = Math.max(from, i * SEGMENT_BYTES);
            int stop = Math.min(end, (i + 1) * SEGMENT_BYTES);
            System.arraycopy(text, start - i * SEGMENT_BYTES, gathered, start - from, stop - start);
        }
        return true;
    }

    /** The file that is begun. */
    private static final class Draft {
        final int[] bytes = new int[FILE_BYTES];
        int file = NONE;
        int salt;
        int length;
    }

    /** What a file's header says, with the file's key opened. */
    private static final class Label {
        final int[] key = new int[KEY_BYTES];
        int file;
        boolean good;
        int epoch;
        int length;
        int first;
        int groups;
        int salt;

        Label(int number) {
            file = number;
        }

        int segments() {
            return (length + SEGMENT_BYTES - 1) / SEGMENT_BYTES;
        }

        boolean hasGroup(int group) {
            return good && group >= first && group < first + groups;
        }
    }

    private static final class Epochs {
        final int[][] keys = new int[EPOCHS + 1][KEY_BYTES];
        private final boolean[] dropped = new boolean[EPOCHS + 1];
        int present;

        void begin(int[] key) {
            present++;
            System.arraycopy(key, 0, keys[present], 0, KEY_BYTES);
        }

        void forget(int e) {
            dropped[e] = true;
            Arrays.fill(keys[e], 0);
        }

        boolean known(int e) {
            return e >= 1 && e <= present && !dropped[e];
        }
    }

    private static final class Cartridge {
        final int[][] rows = new int[BLOCKS][BLOCK_BYTES];
        final boolean[] spoiled = new boolean[BLOCKS];
        int writesDone;
        int writesLeft = NONE;
        boolean stopped;
        boolean headersChanged;

        boolean store(int block, int[] row) {
            if (writesLeft == 0) {
                stopped = true;
            }
            if (stopped) {
                return false;
            }
            if (writesLeft > 0) {
                writesLeft--;
            }
            System.arraycopy(row, 0, rows[block], 0, BLOCK_BYTES);
            spoiled[block] = false;
            writesDone++;
            noteChange(block);
            return true;
        }

        void noteChange(int block) {
            if (block < HEADER_BLOCKS) {
                headersChanged = true;
            }
        }
    }

    /** The blocks of one group, as they are looked at, recovered and written. */
    private static final class Stripe {
        final int[][] rows = new int[GROUP_BLOCKS][BLOCK_BYTES];
        final boolean[] bad = new boolean[DATA_BLOCKS];
        private final Cartridge tape;
        private final Sealing sealing;
        private int base = HEADER_BLOCKS;

        Stripe(Cartridge cartridge, Sealing seals) {
            tape = cartridge;
            sealing = seals;
        }

        /** False if the file's header claims a group that the file or the cartridge has not. */
        boolean load(Label label, int place) {
            int group = label.first + place;
            if (place < 0 || place >= label.groups || group >= GROUPS) {
                return false;
            }
            base = HEADER_BLOCKS + group * GROUP_BLOCKS;
            for (int d = 0; d < DATA_BLOCKS; d++) {
                System.arraycopy(tape.rows[base + d], 0, rows[d], 0, BLOCK_BYTES);
                bad[d] = tape.spoiled[base + d] || !stands(label, place, d);
            }
            return true;
        }

        private boolean stands(Label label, int place, int d) {
            int segment = place * DATA_BLOCKS + d;
            if (segment < label.segments()) {
                return sealing.opensSegment(label, segment, rows[d]);
            }
            int bits = 0;
            for (int k = 0; k < BLOCK_BYTES; k++) {
                bits |= rows[d][k];
            }
            return bits == 0;
        }

        /** The bad rows are put right, if they can be; which were bad is still told then. */
        boolean recover(Label label, int place) {
            int count = 0;
            int one = 0;
            int other = 0;
            for (int d = 0; d < DATA_BLOCKS; d++) {
                if (bad[d]) {
                    one = count == 0 ? d : one;
                    other = d;
                    count++;
                }
            }
            if (count == 1) {
                return (solveOne(0, one) && stands(label, place, one))
                        || (solveOne(1, one) && stands(label, place, one));
            }
            if (count == 2) {
                return solveTwo(one, other)
                        && stands(label, place, one) && stands(label, place, other);
            }
            return count == 0;
        }

        private boolean solveOne(int p, int d) {
            if (tape.spoiled[base + DATA_BLOCKS + p]) {
                return false;
            }
            for (int k = 0; k < BLOCK_BYTES; k++) {
                rows[d][k] = Field.times(restOfParity(p, k), p ^ (d + 2));
            }
            return true;
        }

        private boolean solveTwo(int a, int b) {
            if (tape.spoiled[base + DATA_BLOCKS] || tape.spoiled[base + DATA_BLOCKS + 1]) {
                return false;
            }
            int a0 = INVERSES[a + 2];
            int b0 = INVERSES[b + 2];
            int a1 = INVERSES[1 ^ (a + 2)];
            int b1 = INVERSES[1 ^ (b + 2)];
            int scale = Field.inverse(Field.times(a0, b1) ^ Field.times(b0, a1));
            for (int k = 0; k < BLOCK_BYTES; k++) {
                int rest0 = restOfParity(0, k);
                int rest1 = restOfParity(1, k);
                int left = Field.times(rest0, b1) ^ Field.times(rest1, b0);
                int right = Field.times(rest0, a1) ^ Field.times(rest1, a0);
                rows[a][k] = Field.times(left, scale);
                rows[b][k] = Field.times(right, scale);
            }
            return true;
        }

        /** What the bad blocks together give to a byte of parity. */
        private int restOfParity(int p, int k) {
            int rest = tape.rows[base + DATA_BLOCKS + p][k];
            for (int d = 0; d < DATA_BLOCKS; d++) {
                if (!bad[d]) {
                    rest ^= Field.times(rows[d][k], INVERSES[p ^ (d + 2)]);
                }
            }
            return rest;
        }

        void fillParity() {
            for (int p = 0; p < GROUP_BLOCKS - DATA_BLOCKS; p++) {
                for (int k = 0; k < BLOCK_BYTES; k++) {
                    int sum = 0;
                    for (int d = 0; d < DATA_BLOCKS; d++) {
                        sum ^= Field.times(rows[d][k], INVERSES[p ^ (d + 2)]);
                    }
                    rows[DATA_BLOCKS + p][k] = sum;
                }
            }
        }

        boolean writeAll(int group) {
            base = HEADER_BLOCKS + group * GROUP_BLOCKS;
            for (int i = 0; i < GROUP_BLOCKS; i++) {
                if (!tape.store(base + i, rows[i])) {
                    return false;
                }
            }
            return true;
        }

        /** How many blocks were written; fewer than are needed if the cartridge stops. */
        int repair() {
            fillParity();
            int written = 0;
            for (int i = 0; i < GROUP_BLOCKS; i++) {
                if (isWrong(i)) {
                    written += tape.store(base + i, rows[i]) ? 1 : 0;
                }
            }
            return written;
        }

        private boolean isWrong(int i) {
            if (i < DATA_BLOCKS) {
                return bad[i];
            }
            if (tape.spoiled[base + i]) {
                return true;
            }
            int bits = 0;
            for (int k = 0; k < BLOCK_BYTES; k++) {
                bits |= rows[i][k] ^ tape.rows[base + i][k];
            }
            return bits != 0;
        }
    }

    /** The field of 256 elements, polynomial 0x11B. */
    private static final class Field {
        static int times(int a, int b) {
            int product = 0;
            int shifted = a;
            for (int bit = 0; bit < 8; bit++) {
                if (((b >>> bit) & 1) != 0) {
                    product ^= shifted;
                }
                shifted <<= 1;
                if (shifted > 255) {
                    shifted ^= 0x11B;
                }
            }
            return product;
        }

        /** An element's power of 255 is 1, so that of 254 is its inverse. */
        static int inverse(int a) {
            int power = 1;
            for (int i = 0; i < 254; i++) {
                power = times(power, a);
            }
            return power;
        }
    }

    /** AEAD_CHACHA20_POLY1305 over the two kinds of sealed blocks. */
    private static final class Sealing {
        private final KeyStream stream = new KeyStream();
        private final Authenticator check = new Authenticator();
        private final int[] nonce = new int[NONCE_BYTES];
        private final int[] saltRow = new int[SALT_BYTES];
        private final int[] lengths = new int[TAG_BYTES];

        void makeKey(Label label, int[] epochKey) {
            startNonce(KEY_USE, label.file);
            layDown(label.salt, nonce, 2);
            stream.run(epochKey, nonce, 0);
            System.arraycopy(stream.bytes, 0, label.key, 0, KEY_BYTES);
        }

        void sealHeader(Label label, int[] epochKey, int[] row) {
            Arrays.fill(row, 0);
            row[0] = label.file + 1;
            row[1] = label.epoch;
            row[2] = (label.length >>> 8) & 0xFF;
            row[3] = label.length & 0xFF;
            row[4] = label.first;
            row[5] = label.groups;
            layDown(label.salt, row, SALT_AT);
            System.arraycopy(label.key, 0, row, HEADER_BYTES, KEY_BYTES);
            startHeaderNonce(label);
            turn(epochKey, row, HEADER_BYTES);
            makeTag(epochKey, row, HEADER_BYTES, row, HEADER_BYTES);
            System.arraycopy(check.tag, 0, row, TAG_AT, TAG_BYTES);
        }

        /** The label is filled in any case, but stands for a file only if the header opens. */
        boolean openHeader(Label label, int[] epochKey, int[] row) {
            label.epoch = row[1];
            label.length = (row[2] << 8) | row[3];
            label.first = row[4];
            label.groups = row[5];
            label.salt = takeUp(row, SALT_AT);
            startHeaderNonce(label);
            makeTag(epochKey, row, HEADER_BYTES, row, HEADER_BYTES);
            if (!hasTag(row)) {
                return false;
            }
            stream.run(epochKey, nonce, 1);
            for (int k = 0; k < KEY_BYTES; k++) {
                label.key[k] = row[HEADER_BYTES + k] ^ stream.bytes[k];
            }
            return true;
        }

        void sealSegment(Label label, int segment, int[] row) {
            startSegmentNonce(label, segment);
            turn(label.key, row, 0);
            makeTag(label.key, saltRow, SALT_BYTES, row, 0);
            System.arraycopy(check.tag, 0, row, TAG_AT, TAG_BYTES);
        }

        boolean opensSegment(Label label, int segment, int[] row) {
            startSegmentNonce(label, segment);
            makeTag(label.key, saltRow, SALT_BYTES, row, 0);
            return hasTag(row);
        }

        void uncoverSegment(Label label, int segment, int[] row, int[] plain) {
            startSegmentNonce(label, segment);
            System.arraycopy(row, 0, plain, 0, SEGMENT_BYTES);
            turn(label.key, plain, 0);
        }

        private void startNonce(int use, int file) {
            Arrays.fill(nonce, 0);
            nonce[0] = use;
            nonce[1] = file;
        }

        private void startHeaderNonce(Label label) {
            startNonce(HEADER_USE, label.file);
            nonce[2] = label.epoch;
            layDown(label.salt, nonce, 4);
        }

        private void startSegmentNonce(Label label, int segment) {
            startNonce(SEGMENT_USE, label.file);
            nonce[2] = segment & 0xFF;
            nonce[3] = segment == label.segments() - 1 ? 1 : 0;
            layDown(label.salt, saltRow, 0);
        }

        private static void layDown(int word, int[] row, int at) {
            for (int i = 0; i < SALT_BYTES; i++) {
                row[at + i] = (word >>> (24 - 8 * i)) & 0xFF;
            }
        }

        private static int takeUp(int[] row, int at) {
            int word = 0;
            for (int i = 0; i < SALT_BYTES; i++) {
                word = (word << 8) | row[at + i];
            }
            return word;
        }

        /** Sealed and plain turn into each other; all that stands before the tag is turned. */
        private void turn(int[] key, int[] row, int from) {
            stream.run(key, nonce, 1);
            for (int k = from; k < TAG_AT; k++) {
                row[k] ^= stream.bytes[k - from];
            }
        }

        private void makeTag(int[] key, int[] bound, int boundLength, int[] row, int from) {
            stream.run(key, nonce, 0);
            check.begin(stream.bytes);
            check.absorb(bound, 0, boundLength);
            check.absorb(row, from, TAG_AT);
            lengths[0] = boundLength;
            lengths[8] = TAG_AT - from;
            check.absorb(lengths, 0, TAG_BYTES);
            check.reduce();
            check.end();
        }

        private boolean hasTag(int[] row) {
            int bits = 0;
            for (int k = 0; k < TAG_BYTES; k++) {
                bits |= row[TAG_AT + k] ^ check.tag[k];
            }
            return bits == 0;
        }
    }

    /** ChaCha20, a block at a time. */
    private static final class KeyStream {
        final int[] bytes = new int[64];
        private final int[] start = new int[16];
        private final int[] mixed = new int[16];

        void run(int[] key, int[] nonce, int counter) {
            System.arraycopy(CIPHER_WORDS, 0, start, 0, 4);
            for (int i = 0; i < 8; i++) {
                start[4 + i] = word(key, 4 * i);
            }
            start[12] = counter;
            for (int i = 0; i < 3; i++) {
                start[13 + i] = word(nonce, 4 * i);
            }
            System.arraycopy(start, 0, mixed, 0, 16);
            for (int round = 0; round < 10; round++) {
                for (int q = 0; q < QUARTERS.length; q += 4) {
                    mix(QUARTERS[q], QUARTERS[q + 1], QUARTERS[q + 2], QUARTERS[q + 3]);
                }
            }
            for (int k = 0; k < 64; k++) {
                bytes[k] = ((mixed[k / 4] + start[k / 4]) >>> (8 * (k % 4))) & 0xFF;
            }
        }

        private static int word(int[] row, int at) {
            return row[at] | (row[at + 1] << 8) | (row[at + 2] << 16) | (row[at + 3] << 24);
        }

        private void mix(int i, int j, int k, int l) {
            int a = mixed[i];
            int b = mixed[j];
            int c = mixed[k];
            int d = mixed[l];
            a += b;
            d ^= a;
            d = (d << 16) | (d >>> 16);
            c += d;
            b ^= c;
            b = (b << 12) | (b >>> 20);
            a += b;
            d ^= a;
            d = (d << 8) | (d >>> 24);
            c += d;
            b ^= c;
            b = (b << 7) | (b >>> 25);
            mixed[i] = a;
            mixed[j] = b;
            mixed[k] = c;
            mixed[l] = d;
        }
    }

    /** Poly1305, its numbers in five limbs of 26 bits, the lowest first. */
    private static final class Authenticator {
        private static final int LIMBS = 5;
        private static final int LIMB_BITS = 26;
        private static final long LIMB_MASK = 0x3FFFFFF;

        final int[] tag = new int[TAG_BYTES];
        private final int[] addend = new int[TAG_BYTES];
        private final long[] sum = new long[LIMBS];
        private final long[] factor = new long[LIMBS];
        private final long[] other = new long[LIMBS];

        void begin(int[] once) {
            Arrays.fill(sum, 0L);
            Arrays.fill(factor, 0L);
            for (int k = 0; k < TAG_BYTES; k++) {
                int allowed = k % 4 == 3 ? 15 : k % 4 == 0 && k > 0 ? 252 : 255;
                addByte(factor, k, once[k] & allowed);
                addend[k] = once[TAG_BYTES + k];
            }
        }

        /** What is behind the last whole piece of 16 is taken with 0 behind it. */
        void absorb(int[] row, int from, int end) {
            for (int at = from; at < end; at += 16) {
                for (int k = 0; k < 16 && at + k < end; k++) {
                    addByte(sum, k, row[at + k]);
                }
                sum[LIMBS - 1] += 1L << 24;
                multiply();
                carryOver(other);
            }
        }

        /** The number is brought below 2 to the 130, less 5. */
        void reduce() {
            carryOver(sum);
            carryOver(sum);
            long carry = 5;
            for (int i = 0; i < LIMBS; i++) {
                carry += sum[i];
                other[i] = carry & LIMB_MASK;
                carry >>>= LIMB_BITS;
            }
            if (carry != 0) {
                System.arraycopy(other, 0, sum, 0, LIMBS);
            }
        }

        void end() {
            int carry = 0;
            for (int k = 0; k < TAG_BYTES; k++) {
                carry += byteAt(k) + addend[k];
                tag[k] = carry & 0xFF;
                carry >>>= 8;
            }
        }

        private static void addByte(long[] limbs, int k, int value) {
            int limb = 8 * k / LIMB_BITS;
            long wide = (long) value << (8 * k % LIMB_BITS);
            limbs[limb] += wide & LIMB_MASK;
            if (limb + 1 < LIMBS) {
                limbs[limb + 1] += wide >>> LIMB_BITS;
            }
        }

        private int byteAt(int k) {
            int limb = 8 * k / LIMB_BITS;
            int shift = 8 * k % LIMB_BITS;
            long wide = sum[limb];
            if (limb + 1 < LIMBS) {
                wide |= sum[limb + 1] << LIMB_BITS;
            }
            return (int) (wide >>> shift) & 0xFF;
        }

        /** The product comes to other, in limbs that are too big still. */
        private void multiply() {
            for (int i = 0; i < LIMBS; i++) {
                long total = 0;
                for (int j = 0; j < LIMBS; j++) {
                    // 2 to the 130 is 5 here: what goes over the top comes back five times.
                    total += j <= i ? sum[j] * factor[i - j] : 5 * sum[j] * factor[i - j + LIMBS];
                }
                other[i] = total;
            }
        }

        private void carryOver(long[] limbs) {
            long carry = 0;
            for (int i = 0; i < LIMBS; i++) {
                carry += limbs[i];
                sum[i] = carry & LIMB_MASK;
                carry >>>= LIMB_BITS;
            }
            sum[0] += 5 * carry;
            sum[1] += sum[0] >>> LIMB_BITS;
            sum[0] &= LIMB_MASK;
        }
    }
}
