import java.security.GeneralSecurityException;
import java.security.Key;
import javax.crypto.AEADBadTagException;
import javax.crypto.Cipher;
import javax.crypto.spec.ChaCha20ParameterSpec;
import javax.crypto.spec.IvParameterSpec;
import javax.crypto.spec.SecretKeySpec;

/** RFC 8439 by the Java library, so that what the tests expect owes nothing to the program. */
final class Crypto {
    private Crypto() {
    }

    static byte[] keyBlock(byte[] key, byte[] nonce) {
        try {
            Cipher cipher = Cipher.getInstance("ChaCha20");
            cipher.init(Cipher.ENCRYPT_MODE, secret(key), new ChaCha20ParameterSpec(nonce, 0));
            return cipher.doFinal(new byte[64]);
        } catch (GeneralSecurityException e) {
            throw new IllegalStateException(e);
        }
    }

    static byte[] seal(byte[] key, byte[] nonce, byte[] bound, byte[] text) {
        try {
            return sealing(Cipher.ENCRYPT_MODE, key, nonce, bound).doFinal(text);
        } catch (GeneralSecurityException e) {
            throw new IllegalStateException(e);
        }
    }

    /** Null if it does not open. */
    static byte[] open(byte[] key, byte[] nonce, byte[] bound, byte[] sealed) {
        try {
            return sealing(Cipher.DECRYPT_MODE, key, nonce, bound).doFinal(sealed);
        } catch (AEADBadTagException e) {
            return null;
        } catch (GeneralSecurityException e) {
            throw new IllegalStateException(e);
        }
    }

    private static Cipher sealing(int mode, byte[] key, byte[] nonce, byte[] bound)
            throws GeneralSecurityException {
        Cipher cipher = Cipher.getInstance("ChaCha20-Poly1305");
        cipher.init(mode, secret(key), new IvParameterSpec(nonce));
        cipher.updateAAD(bound);
        return cipher;
    }

    private static Key secret(byte[] key) {
        return new SecretKeySpec(key, "ChaCha20");
    }
}
