import java.math.BigInteger;
import java.security.MessageDigest;
import java.security.NoSuchAlgorithmException;
import java.util.ArrayList;
import java.util.Arrays;
import java.util.Collections;
import java.util.List;

/** A second machine, written from the document alone and with the Java library, to hold the class against. */
final class Model {
    final List<byte[]> stack = new ArrayList<>();
    private final List<byte[]> side = new ArrayList<>();
    private final List<Boolean> parts = new ArrayList<>();
    int secret;
    int place = -1;
    int counted;
    int asked;

    /** A fault on its way out of an operation. */
    private static final class Fault extends RuntimeException {
        private static final long serialVersionUID = 1L;
        final int number;

        Fault(int number) {
            super(null, null, false, false);
            this.number = number;
        }
    }

    int run(int[] script) {
        side.clear();
        parts.clear();
        counted = 0;
        asked = 0;
        place = 0;
        try {
            while (place < script.length) {
                int end = endOf(script, place);
                operate(script, place, end);
                demand(stack.size() + side.size() <= 60, 11);
                place = end;
            }
            demand(parts.isEmpty(), 12);
        } catch (Fault fault) {
            stack.clear();
            return -1 - fault.number;
        }
        place = -1;
        return 1;
    }

    private static void demand(boolean so, int fault) {
        if (!so) {
            throw new Fault(fault);
        }
    }

    private static int endOf(int[] script, int at) {
        int code = script[at];
        if (code > 77) {
            return at + 1;
        }
        int begin = at + (code < 76 ? 1 : code == 76 ? 2 : 3);
        demand(begin <= script.length, 1);
        int many = code < 76 ? code : code == 76 ? script[at + 1] : script[at + 1] + 256 * script[at + 2];
        demand(begin + many <= script.length, 1);
        demand(many <= 120, 2);
        return begin + many;
    }

    private void operate(int[] script, int at, int end) {
        int code = script[at];
        boolean done = !parts.contains(false);
        if (code > 96) {
            counted++;
            demand(counted <= 100, 3);
        }
        if (code == 99 || code == 100) {
            parts.add(done && truth(pop()) == (code == 99));
        } else if (code == 103 || code == 104) {
            demand(!parts.isEmpty(), 10);
            boolean last = parts.remove(parts.size() - 1);
            if (code == 103) {
                parts.add(!last);
            }
        } else if (done && code <= 77) {
            int begin = at + (code < 76 ? 1 : code - 74);
            byte[] element = new byte[end - begin];
            for (int i = 0; i < element.length; i++) {
                element[i] = (byte) script[begin + i];
            }
            stack.add(element);
        } else if (done) {
            perform(code);
        }
    }

    private void perform(int code) {
        if (code == 79 || code >= 81 && code <= 96) {
            pushNumber(code - 80);
        } else if (code == 105) {
            verify();
        } else if (code == 106) {
            throw new Fault(9);
        } else if (code == 107) {
            side.add(pop());
        } else if (code == 108) {
            demand(!side.isEmpty(), 5);
            stack.add(side.remove(side.size() - 1));
        } else if (code >= 109 && code <= 125 || code == 130) {
            move(code);
        } else if (code == 135 || code == 136) {
            pushTruth(Arrays.equals(pop(), pop()));
        } else if (code >= 139 && code <= 165) {
            reckon(code);
        } else if (code == 166 || code >= 168 && code <= 170) {
            digest(code);
        } else if (code == 172 || code == 173) {
            byte[] key = pop();
            pushTruth(fits(pop(), key));
        } else if (code == 174 || code == 175) {
            askMany();
        } else {
            demand(code == 97, 4);
        }
        if (code == 136 || code == 157 || code == 173 || code == 175) {
            verify();
        }
    }

    /** Each move as the document draws it: letters for x1, x2 .., before and behind. */
    private void move(int code) {
        switch (code) {
            case 109: shape("ab", ""); break;
            case 110: shape("ab", "abab"); break;
            case 111: shape("abc", "abcabc"); break;
            case 112: shape("abcd", "abcdab"); break;
            case 113: shape("abcdef", "cdefab"); break;
            case 114: shape("abcd", "cdab"); break;
            case 115: shape("a", !stack.isEmpty() && truth(stack.get(stack.size() - 1)) ? "aa" : "a"); break;
            case 116: pushNumber(stack.size()); break;
            case 117: shape("a", ""); break;
            case 118: shape("a", "aa"); break;
            case 119: shape("ab", "b"); break;
            case 120: shape("ab", "aba"); break;
            case 121:
            case 122:
                long n = number(pop());
                demand(n >= 0 && n <= stack.size() - 1, 7);
                int index = stack.size() - 1 - (int) n;
                stack.add(code == 121 ? stack.get(index) : stack.remove(index));
                break;
            case 123: shape("abc", "bca"); break;
            case 124: shape("ab", "ba"); break;
            case 125: shape("ab", "bab"); break;
            default:
                shape("a", "a");
                pushNumber(stack.get(stack.size() - 1).length);
                break;
        }
    }

    private void shape(String before, String behind) {
        demand(stack.size() >= before.length(), 5);
        List<byte[]> taken = new ArrayList<>();
        for (int i = 0; i < before.length(); i++) {
            taken.add(pop());
        }
        Collections.reverse(taken);
        for (char letter : behind.toCharArray()) {
            stack.add(taken.get(before.indexOf(letter)));
        }
    }

    private void reckon(int code) {
        boolean one = code == 139 || code == 140 || code >= 143 && code <= 146;
        demand(one || code == 147 || code == 148 || code >= 154, 4);
        long b = number(pop());
        long a = one ? 0 : number(pop());
        long x = code == 165 ? number(pop()) : 0;
        switch (code) {
            case 139: pushNumber(b + 1); break;
            case 140: pushNumber(b - 1); break;
            case 143: pushNumber(-b); break;
            case 144: pushNumber(Math.abs(b)); break;
            case 145: pushTruth(b == 0); break;
            case 146: pushTruth(b != 0); break;
            case 147: pushNumber(a + b); break;
            case 148: pushNumber(a - b); break;
            case 154: pushTruth(a != 0 && b != 0); break;
            case 155: pushTruth(!(a == 0 && b == 0)); break;
            case 156: case 157: pushTruth(a == b); break;
            case 158: pushTruth(a != b); break;
            case 159: pushTruth(a < b); break;
            case 160: pushTruth(a > b); break;
            case 161: pushTruth(!(a > b)); break;
            case 162: pushTruth(!(a < b)); break;
            case 163: pushNumber(Math.min(a, b)); break;
            case 164: pushNumber(Math.max(a, b)); break;
            default: pushTruth(a <= x && x < b); break;
        }
    }

    private void askMany() {
        long n = number(pop());
        demand(n >= 0 && n <= 8, 7);
        counted += (int) n;
        demand(counted <= 100, 3);
        List<byte[]> keys = new ArrayList<>();
        for (int i = 0; i < n; i++) {
            keys.add(pop());
        }
        long m = number(pop());
        demand(m >= 0 && m <= n, 7);
        List<byte[]> signatures = new ArrayList<>();
        for (int i = 0; i < m; i++) {
            signatures.add(pop());
        }
        pop();
        while (!signatures.isEmpty() && signatures.size() <= keys.size()) {
            if (fits(signatures.get(0), keys.remove(0))) {
                signatures.remove(0);
            }
        }
        pushTruth(signatures.isEmpty());
    }

    private boolean fits(byte[] signature, byte[] key) {
        asked++;
        if (signature.length == 0 || key.length == 0) {
            return false;
        }
        BigInteger product = BigInteger.valueOf((signature[0] & 255) * (key[key.length - 1] & 255));
        BigInteger sum = BigInteger.valueOf(secret).add(product)
            .add(BigInteger.valueOf(signature[signature.length - 1] & 255));
        return sum.mod(BigInteger.valueOf(3)).signum() == 0;
    }

    private void digest(int code) {
        byte[] element = pop();
        try {
            MessageDigest sha = MessageDigest.getInstance("SHA-256");
            byte[] once = code == 166 ? element : sha.digest(element);
            stack.add(code == 168 ? once : code == 170 ? sha.digest(once) : Ripemd.digest(once));
        } catch (NoSuchAlgorithmException none) {
            throw new IllegalStateException(none);
        }
    }

    private byte[] pop() {
        demand(!stack.isEmpty(), 5);
        return stack.remove(stack.size() - 1);
    }

    private void verify() {
        demand(truth(pop()), 8);
    }

    static boolean truth(byte[] element) {
        byte[] unsigned = element.clone();
        if (unsigned.length > 0 && unsigned[unsigned.length - 1] == (byte) 128) {
            unsigned[unsigned.length - 1] = 0;
        }
        return new BigInteger(1, unsigned).signum() != 0;
    }

    private static long number(byte[] element) {
        demand(element.length <= 4, 6);
        byte[] size = new byte[element.length];
        for (int i = 0; i < size.length; i++) {
            size[i] = element[size.length - 1 - i];
        }
        boolean below = size.length > 0 && size[0] < 0;
        if (below) {
            size[0] &= 127;
        }
        long value = new BigInteger(1, size).longValue();
        return below ? -value : value;
    }

    private void pushTruth(boolean so) {
        pushNumber(so ? 1 : 0);
    }

    private void pushNumber(long value) {
        byte[] high = value == 0 ? new byte[0] : BigInteger.valueOf(Math.abs(value)).toByteArray();
        byte[] element = new byte[high.length];
        for (int i = 0; i < high.length; i++) {
            element[i] = high[high.length - 1 - i];
        }
        if (value < 0) {
            element[element.length - 1] |= (byte) 128;
        }
        stack.add(element);
    }

    /** RIPEMD-160 with its orders of words and its constants made by their rules, not from tables. */
    private static final class Ripemd {
        private static final int[] RHO = {7, 4, 13, 1, 10, 6, 15, 3, 12, 0, 9, 5, 2, 14, 11, 8};
        /** Shift amounts by word and round, as the designers' table has them. */
        private static final int[][] SHIFT = {
            {11, 14, 15, 12, 5, 8, 7, 9, 11, 13, 14, 15, 6, 7, 9, 8},
            {12, 13, 11, 15, 6, 9, 9, 7, 12, 15, 11, 13, 7, 8, 7, 7},
            {13, 15, 14, 11, 7, 7, 6, 8, 13, 14, 13, 12, 5, 5, 6, 9},
            {14, 11, 12, 14, 8, 6, 5, 5, 15, 12, 15, 14, 9, 9, 8, 6},
            {15, 12, 13, 13, 9, 5, 8, 6, 14, 11, 12, 11, 8, 6, 5, 5}};

        static byte[] digest(byte[] message) {
            int blocks = (message.length + 8) / 64 + 1;
            byte[] padded = Arrays.copyOf(message, 64 * blocks);
            padded[message.length] = (byte) 128;
            java.nio.ByteBuffer words = java.nio.ByteBuffer.wrap(padded).order(java.nio.ByteOrder.LITTLE_ENDIAN);
            words.putLong(64 * blocks - 8, 8L * message.length);
            int[] h = {0x67452301, 0xefcdab89, 0x98badcfe, 0x10325476, 0xc3d2e1f0};
            for (int block = 0; block < blocks; block++) {
                int[] x = new int[16];
                for (int i = 0; i < 16; i++) {
                    x[i] = words.getInt(64 * block + 4 * i);
                }
                int[] left = line(h, x, true);
                int[] right = line(h, x, false);
                int[] sum = new int[5];
                for (int i = 0; i < 5; i++) {
                    sum[i] = h[(i + 1) % 5] + left[(i + 2) % 5] + right[(i + 3) % 5];
                }
                h = sum;
            }
            java.nio.ByteBuffer answer = java.nio.ByteBuffer.allocate(20).order(java.nio.ByteOrder.LITTLE_ENDIAN);
            for (int word : h) {
                answer.putInt(word);
            }
            return answer.array();
        }

        private static int[] line(int[] h, int[] x, boolean left) {
            int a = h[0];
            int b = h[1];
            int c = h[2];
            int d = h[3];
            int e = h[4];
            for (int j = 0; j < 80; j++) {
                int round = j / 16;
                int word = left ? j % 16 : (9 * (j % 16) + 5) % 16;
                for (int i = 0; i < round; i++) {
                    word = RHO[word];
                }
                int f = blend(left ? round : 4 - round, b, c, d);
                int t = Integer.rotateLeft(a + f + x[word] + added(round, left), SHIFT[round][word]) + e;
                a = e;
                e = d;
                d = Integer.rotateLeft(c, 10);
                c = b;
                b = t;
            }
            return new int[] {a, b, c, d, e};
        }

        private static int blend(int kind, int x, int y, int z) {
            int[] all = {x ^ y ^ z, (x & y) | (~x & z), (x | ~y) ^ z, (x & z) | (y & ~z), x ^ (y | ~z)};
            return all[kind];
        }

        /** 2^30 times the square roots (left) or cube roots (right) of 2, 3, 5, 7. */
        private static int added(int round, boolean left) {
            int[] primes = {2, 3, 5, 7};
            if (left) {
                return round == 0 ? 0 : BigInteger.valueOf(primes[round - 1]).shiftLeft(60).sqrt().intValue();
            }
            return round == 4 ? 0 : cubeRoot(BigInteger.valueOf(primes[round]).shiftLeft(90)).intValue();
        }

        private static BigInteger cubeRoot(BigInteger value) {
            BigInteger root = BigInteger.ZERO;
            for (int bit = 40; bit >= 0; bit--) {
                BigInteger tried = root.setBit(bit);
                if (tried.pow(3).compareTo(value) <= 0) {
                    root = tried;
                }
            }
            return root;
        }
    }
}
