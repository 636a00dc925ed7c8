import java.nio.charset.StandardCharsets;
import java.security.MessageDigest;
import java.security.NoSuchAlgorithmException;

/** Operations 166, 168, 169, 170 against published answers, and at every length an element may have. */
public final class DigestTest {
    public static void main(String[] args) throws NoSuchAlgorithmException {
        published();
        everyLength();
        composed();
        Check.end("DigestTest");
    }

    private static void published() {
        answers(166, "", "9c1185a5c5e9fc54612808977ee8f548b2258d31");
        answers(166, "a", "0bdc9d2d256b3ee9daae347be6f4dc835a467ffe");
        answers(166, "abc", "8eb208f7e05d987a9b044a8e98c6b087f15a0bfc");
        answers(166, "message digest", "5d0689ef49d2fae572b881b123a85ffa21595f36");
        answers(166, "abcdefghijklmnopqrstuvwxyz", "f71c27109c692c1b56bbdceb5b9d2865b3708dbc");
        answers(166, "abcdbcdecdefdefgefghfghighijhijkijkljklmklmnlmnomnopnopq",
            "12a053384a9c0c88e405a06c27dcf49ada62eb2b");
        answers(166, "ABCDEFGHIJKLMNOPQRSTUVWXYZabcdefghijklmnopqrstuvwxyz0123456789",
            "b0e20b6e3116640286ed3a87a5713079b21f5189");
        answers(166, "1234567890".repeat(8), "9b752e45573d4b39f4dbd3323cab82bf63326bfb");
        answers(168, "", "e3b0c44298fc1c149afbf4c8996fb92427ae41e4649b934ca495991b7852b855");
        answers(168, "abc", "ba7816bf8f01cfea414140de5dae2223b00361a396177a9cb410ff61f20015ad");
        answers(168, "abcdbcdecdefdefgefghfghighijhijkijkljklmklmnlmnomnopnopq",
            "248d6a61d20638b8e5c026930c3e6039a33ce45964ff2167f6ecedd419db06c1");
    }

    private static void answers(int code, String text, String want) {
        byte[] message = text.getBytes(StandardCharsets.ISO_8859_1);
        Check.due(code + " of '" + text + "'", digest(code, message), want);
    }

    private static void everyLength() throws NoSuchAlgorithmException {
        MessageDigest over = MessageDigest.getInstance("SHA-256");
        MessageDigest sha = MessageDigest.getInstance("SHA-256");
        for (int n = 0; n <= 120; n++) {
            byte[] message = message(n);
            String once = hex(sha.digest(message));
            Check.due("168 of length " + n, digest(168, message), once);
            Check.due("170 of length " + n, digest(170, message), hex(sha.digest(sha.digest(message))));
            over.update(unhex(digest(166, message)));
        }
        // Made with another program's RIPEMD-160 over the same messages.
        Check.due("166 of all lengths", hex(over.digest()),
            "3da089798bd6f9ba2716d1d131da50f28a0add20b53a7fe1823613b5187d4a41");
        Check.due("166 of 55", digest(166, message(55)), "edbaa558fe3cf06882cb238967cebccbe5090075");
        Check.due("166 of 56", digest(166, message(56)), "05eb324e25e7aab3af2696cf4d65245f301ddca6");
        Check.due("166 of 119", digest(166, message(119)), "4df3c3952bf953d712205807c572fce28167850e");
        Check.due("166 of 120", digest(166, message(120)), "9776abb60d899985f5e9e1acc2bae25080ec5740");
    }

    private static void composed() {
        for (int n = 0; n <= 120; n += 8) {
            Check.due("169 of length " + n, digest(169, message(n)), digest(166, unhex(digest(168, message(n)))));
        }
        ScriptDesk desk = Check.leaves("c51b66bced5e4491001bd702669770dccf440982", 81, 169);
        Check.due("one operation", desk.count(0), 1);
        // Only the top is taken, and a digest leaves nothing for the next one.
        Check.leaves("05 9c1185a5c5e9fc54612808977ee8f548b2258d31 9c1185a5c5e9fc54612808977ee8f548b2258d31",
            85, 0, 166, 0, 166);
    }

    private static byte[] message(int n) {
        byte[] message = new byte[n];
        for (int i = 0; i < n; i++) {
            message[i] = (byte) (37 * i + 11 * n + 5);
        }
        return message;
    }

    private static String digest(int code, byte[] message) {
        ScriptDesk desk = new ScriptDesk();
        Check.load(desk, 76, message.length);
        for (byte octet : message) {
            Check.load(desk, octet);
        }
        Check.due("run of " + code, Check.runOf(desk, code), 1);
        Check.due("size after " + code, desk.size(), 1);
        return Check.stackOf(desk);
    }

    private static String hex(byte[] octets) {
        StringBuilder text = new StringBuilder();
        for (byte octet : octets) {
            text.append(String.format("%02x", octet & 255));
        }
        return text.toString();
    }

    private static byte[] unhex(String text) {
        byte[] octets = new byte[text.length() / 2];
        for (int i = 0; i < octets.length; i++) {
            octets[i] = (byte) Integer.parseInt(text.substring(2 * i, 2 * i + 2), 16);
        }
        return octets;
    }
}
