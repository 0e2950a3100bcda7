import java.math.BigInteger;
import java.util.Arrays;
import java.util.Random;

/**
 * Segments whose tag comes from a number that is hardly above 0: Poly1305 has it as one that is
 * hardly below 2 to the 130 until it is brought down, which no ordinary segment ever needs.
 */
public final class TagEdgesTest {
    private static final BigInteger PRIME = BigInteger.ONE.shiftLeft(130).subtract(BigInteger.valueOf(5));
    private static final BigInteger CLAMP = new BigInteger("0ffffffc0ffffffc0ffffffc0fffffff", 16);
    private static final BigInteger TOP = BigInteger.ONE.shiftLeft(128);

    private TagEdgesTest() {
    }

    public static void main(String[] args) {
        int wrong = 0;
        for (int rest = 0; rest < 12; rest++) {
            wrong += run(BigInteger.valueOf(rest));
        }
        wrong += run(PRIME.subtract(BigInteger.ONE));
        wrong += run(TOP);
        wrong += run(TOP.subtract(BigInteger.ONE));
        System.out.println(wrong == 0 ? "all answers are as due" : wrong + " answers are not as due");
        System.exit(wrong == 0 ? 0 : 1);
    }

    private static int run(BigInteger rest) {
        Pair pair = new Pair();
        Random random = new Random(rest.longValue());
        for (int i = 0; i < 8; i++) {
            pair.put(random.nextInt(), 4);
        }
        pair.epoch();
        pair.create(random.nextInt());
        pair.put(1, 1);
        pair.append();
        pair.finish();
        byte[] due = segmentWith(pair.model.header(0), rest, random);
        for (int i = 0; i < 64; i++) {
            pair.damage(8, i, (due[i] ^ pair.model.tape[8][i]) & 255);
        }
        boolean opens = pair.verify(0).equals("0");
        pair.read(0, 0, 1);
        pair.output(0);
        pair.damage(8, 48, 1);
        boolean isBad = pair.verify(0).equals("1");
        return pair.wrong + (opens ? 0 : 1) + (isBad ? 0 : 1);
    }

    /** A sealed block of the only segment whose tag comes from the number rest. */
    private static byte[] segmentWith(Model.Header header, BigInteger rest, Random random) {
        byte[] nonce = new byte[12];
        nonce[0] = 2;
        nonce[3] = 1;
        byte[] once = Crypto.keyBlock(header.key(), nonce);
        BigInteger factor = number(once, 0).and(CLAMP);
        BigInteger undo = factor.modInverse(PRIME);
        byte[] salt = java.nio.ByteBuffer.allocate(16).putInt(header.salt()).array();
        byte[] lengths = new byte[16];
        lengths[0] = 4;
        lengths[8] = 48;
        byte[] block = new byte[64];
        for (int tries = 0; tries < 1000; tries++) {
            random.nextBytes(block);
            BigInteger sum = BigInteger.ZERO;
            for (byte[] piece : new byte[][] {salt, Arrays.copyOf(block, 16),
                Arrays.copyOfRange(block, 16, 32)}) {
                sum = sum.add(number(piece, 0)).add(TOP).multiply(factor).mod(PRIME);
            }
            BigInteger before = rest.multiply(undo).subtract(number(lengths, 0)).subtract(TOP);
            BigInteger third = before.multiply(undo).subtract(sum).mod(PRIME);
            if (third.shiftRight(128).equals(BigInteger.ONE)) {
                lay(third.subtract(TOP), block, 32);
                lay(rest.add(number(once, 16)), block, 48);
                return block;
            }
        }
        throw new IllegalStateException("no such segment found");
    }

    private static BigInteger number(byte[] bytes, int at) {
        byte[] turned = new byte[16];
        for (int i = 0; i < 16; i++) {
            turned[15 - i] = bytes[at + i];
        }
        return new BigInteger(1, turned);
    }

    private static void lay(BigInteger number, byte[] bytes, int at) {
        for (int i = 0; i < 16; i++) {
            bytes[at + i] = number.shiftRight(8 * i).byteValue();
        }
    }
}
