import java.util.Arrays;

/** The bounds of numbers, digests and signatures: a method for each sentence, at and behind the bound. */
public final class ReckoningEdgeTest {
    private static final long MOST = 2147483647L;

    public static void main(String[] args) {
        sumsDoNotWrapAround();
        signsAndSizes();
        truthsOfOneTurnAt0();
        truthsOfTwo();
        likenessIsOfNumbersNotOfBytes();
        comparisonsTurnAtEqual();
        lesserAndGreater();
        code165IsFromAUpToBelowB();
        digestsTakeTheTopAlone();
        theRuleNeedsBytesOnBothSides();
        theRuleLooksAtFirstAndLastBytes();
        theRuleDividesBy3WithoutWrapAround();
        oneSignatureAndOneKey();
        nIsUpTo8AndMUpToN();
        nAndMBehindTheirBounds();
        everyElementOf174IsNeeded();
        xIsAnyElement();
        signaturesFitKeysInTheirOrder();
        askingEndsAsSoonAsItIsClear();
        Check.end("ReckoningEdgeTest");
    }

    private static void ofOne(int code, long a, long want) {
        Check.leaves(Check.numberText(want), Check.join(Check.pushOf(a), Check.row(code)));
    }

    private static void ofTwo(int code, long a, long b, long want) {
        Check.leaves(Check.numberText(want), Check.join(Check.pushOf(a), Check.pushOf(b), Check.row(code)));
    }

    /** "139 a: a + 1. 140 a - 1. .. 147 a b: a + b. 148 a - b." */
    private static void sumsDoNotWrapAround() {
        ofOne(139, MOST, MOST + 1);
        ofOne(139, MOST - 1, MOST);
        ofOne(139, -MOST, -MOST + 1);
        ofOne(139, -1, 0);
        ofOne(139, 0, 1);
        ofOne(140, -MOST, -MOST - 1);
        ofOne(140, -MOST + 1, -MOST);
        ofOne(140, MOST, MOST - 1);
        ofOne(140, 1, 0);
        ofOne(140, 0, -1);
        ofTwo(147, MOST, MOST, 2 * MOST);
        ofTwo(147, -MOST, -MOST, -2 * MOST);
        ofTwo(147, MOST, 1, MOST + 1);
        ofTwo(147, -MOST, -1, -MOST - 1);
        ofTwo(147, MOST, -MOST, 0);
        ofTwo(148, MOST, -MOST, 2 * MOST);
        ofTwo(148, -MOST, MOST, -2 * MOST);
        ofTwo(148, MOST, MOST, 0);
        ofTwo(148, 5, 3, 2);
        ofTwo(148, 3, 5, -2);
    }

    /** "143 -a. 144 its size." */
    private static void signsAndSizes() {
        long[] values = {0, 1, 127, 128, 255, 256, MOST - 1, MOST};
        for (long a : values) {
            ofOne(143, a, -a);
            ofOne(143, -a, a);
            ofOne(144, a, a);
            ofOne(144, -a, a);
        }
    }

    /** "145 whether it is 0. 146 whether it is not." */
    private static void truthsOfOneTurnAt0() {
        long[] others = {1, -1, 128, -128, 256, -256, 16777216, MOST, -MOST};
        ofOne(145, 0, 1);
        ofOne(146, 0, 0);
        for (long a : others) {
            ofOne(145, a, 0);
            ofOne(146, a, 1);
        }
        // 0 with bytes, and with a sign.
        Check.leaves("01", 1, 128, 145);
        Check.leaves("01", 4, 0, 0, 0, 128, 145);
        Check.leaves("-", 4, 0, 0, 0, 128, 146);
        Check.leaves("01", 4, 0, 0, 0, 129, 146);
    }

    /** "154 whether neither is 0. 155 whether not both are." */
    private static void truthsOfTwo() {
        long[] others = {1, -1, 256, MOST, -MOST};
        ofTwo(154, 0, 0, 0);
        ofTwo(155, 0, 0, 0);
        for (long a : others) {
            ofTwo(154, a, 0, 0);
            ofTwo(154, 0, a, 0);
            ofTwo(154, a, a, 1);
            ofTwo(154, a, -a, 1);
            ofTwo(155, a, 0, 1);
            ofTwo(155, 0, a, 1);
            ofTwo(155, a, a, 1);
            ofTwo(155, a, -a, 1);
        }
        Check.leaves("-", 1, 128, 81, 154);
        Check.leaves("-", 1, 128, 1, 128, 155);
    }

    /** "156 whether they are like. 157 the same, and 105 behind it. 158 whether they are not." */
    private static void likenessIsOfNumbersNotOfBytes() {
        long[] values = {0, 1, -1, 127, -128, 256, MOST, -MOST};
        for (long a : values) {
            for (long b : values) {
                ofTwo(156, a, b, a == b ? 1 : 0);
                ofTwo(158, a, b, a == b ? 0 : 1);
                int[] codes = Check.join(Check.pushOf(a), Check.pushOf(b), Check.row(157));
                if (a == b) {
                    Check.leaves("", codes);
                } else {
                    Check.faults(8, codes.length - 1, codes);
                }
            }
        }
        Check.leaves("01", 85, 4, 5, 0, 0, 0, 156);
        Check.leaves("-", 85, 4, 5, 0, 0, 0, 158);
        Check.leaves("", 85, 4, 5, 0, 0, 0, 157);
        Check.leaves("-", 85, 4, 5, 0, 0, 0, 135);
        Check.leaves("01", 0, 1, 128, 156);
    }

    /** "159 a below b. 160 a above b. 161 not above. 162 not below." */
    private static void comparisonsTurnAtEqual() {
        long[] values = {0, 1, -1, 127, 128, -128, 256, -256, MOST, -MOST};
        for (long a : values) {
            ordered(a, a, 0, 0);
            if (a < MOST) {
                ordered(a, a + 1, 1, 0);
                ordered(a + 1, a, 0, 1);
            }
        }
        ordered(-MOST, MOST, 1, 0);
        ordered(MOST, -MOST, 0, 1);
        ordered(-2, 1, 1, 0);
        ordered(-1, -2, 0, 1);
    }

    private static void ordered(long a, long b, int below, int above) {
        ofTwo(159, a, b, below);
        ofTwo(160, a, b, above);
        ofTwo(161, a, b, 1 - above);
        ofTwo(162, a, b, 1 - below);
    }

    /** "163 the lesser. 164 the greater." */
    private static void lesserAndGreater() {
        long[][] pairs = {{0, 0}, {-1, 0}, {0, 1}, {-1, 1}, {-2, -1}, {127, 128}, {-MOST, MOST}, {MOST - 1, MOST}, {5, 5}};
        for (long[] pair : pairs) {
            ofTwo(163, pair[0], pair[1], pair[0]);
            ofTwo(163, pair[1], pair[0], pair[0]);
            ofTwo(164, pair[0], pair[1], pair[1]);
            ofTwo(164, pair[1], pair[0], pair[1]);
        }
    }

    /** "165 x a b: whether a <= x < b." */
    private static void code165IsFromAUpToBelowB() {
        long[] values = {-MOST, -MOST + 1, -1, 0, 1, 2, MOST - 1, MOST};
        for (long x : values) {
            for (long a : values) {
                for (long b : values) {
                    int[] codes = Check.join(Check.pushOf(x), Check.pushOf(a), Check.pushOf(b), Check.row(165));
                    Check.leaves(a <= x && x < b ? "01" : "-", codes);
                }
            }
        }
        Check.leaves("-", 84, 85, 88, 165);
        Check.leaves("01", 85, 85, 88, 165);
        Check.leaves("01", 87, 85, 88, 165);
        Check.leaves("-", 88, 85, 88, 165);
        Check.leaves("-", 85, 85, 85, 165);
    }

    /** "DIGESTS take the top and push: 166 .. 20 bytes; 168 .. 32 bytes; 169 166 of 168; 170 168 of 168." */
    private static void digestsTakeTheTopAlone() {
        int[][] lengths = {{166, 20}, {168, 32}, {169, 20}, {170, 32}};
        for (int[] length : lengths) {
            Check.faults(5, 0, length[0]);
            Check.faults(5, 2, 81, 107, length[0]);
            for (int many = 0; many <= 120; many++) {
                ScriptDesk desk = Check.ends(2, Check.join(Check.row(89), Check.sevens(many), Check.row(length[0])));
                Check.due("bytes of " + length[0], desk.bytes(0), length[1]);
                Check.due("none behind them", desk.byteOf(0, length[1]), -1);
                Check.due("what is below", desk.byteOf(1, 0), 9);
            }
        }
        Check.leaves("01", 1, 7, 168, 166, 1, 7, 169, 135);
        Check.leaves("01", 1, 7, 168, 168, 1, 7, 170, 135);
        Check.faults(4, 1, 81, 167);
        Check.faults(4, 1, 81, 171);
    }

    /** "a signature and a key fit if both have bytes". */
    private static void theRuleNeedsBytesOnBothSides() {
        fits(true, 0, Check.row(1, 0), Check.row(1, 0));
        fits(false, 0, Check.row(0), Check.row(1, 0));
        fits(false, 0, Check.row(1, 0), Check.row(0));
        fits(false, 0, Check.row(0), Check.row(0));
        fits(true, 0, Check.join(Check.row(76, 60), Check.times(60, 3)), Check.join(Check.row(76, 120), Check.times(120, 3)));
        // Whatever the other one and the secret are.
        for (int secret = 0; secret < 3; secret++) {
            for (int octet = 0; octet < 3; octet++) {
                fits(false, secret, Check.row(0), Check.row(1, octet));
                for (int last = 0; last < 3; last++) {
                    fits(false, secret, Check.row(2, octet, last), Check.row(0));
                }
            }
            fits(false, secret, Check.row(0), Check.row(0));
        }
        ScriptDesk desk = new ScriptDesk();
        Check.due("many without bytes", Check.runOf(desk, 0, 0, 81, 0, 81, 174), 1);
        Check.due("do not fit", Check.stackOf(desk), "-");
        Check.due("a key without bytes", Check.runOf(desk, 0, 83, 81, 0, 81, 174), 1);
        Check.due("does not fit", Check.stackOf(desk), "- -");
    }

    /** "the first byte of the signature times the last byte of the key, plus the last byte of the signature". */
    private static void theRuleLooksAtFirstAndLastBytes() {
        int[] octets = {0, 1, 2, 3, 127, 128, 254, 255};
        for (int first : octets) {
            for (int last : octets) {
                for (int key : octets) {
                    boolean want = (first * key + last) % 3 == 0;
                    fits(want, 0, Check.row(2, first, last), Check.row(1, key));
                    fits(want, 0, Check.row(3, first, 1, last), Check.row(2, 1, key));
                    fits(want, 0, Check.row(3, first, 0, last), Check.row(2, 2, key));
                }
            }
            // Its one byte is the first and the last.
            fits((first * 4 + first) % 3 == 0, 0, Check.row(1, first), Check.row(1, 4));
        }
    }

    /** "the secret, plus .. is divisible by 3": any int, also below 0 and at its ends. */
    private static void theRuleDividesBy3WithoutWrapAround() {
        int[] secrets = {0, 1, 2, 3, 4, -1, -2, -3, -4, Integer.MAX_VALUE, Integer.MAX_VALUE - 1, Integer.MAX_VALUE - 2,
            Integer.MIN_VALUE, Integer.MIN_VALUE + 1, Integer.MIN_VALUE + 2, Integer.MAX_VALUE - 65280,
            Integer.MAX_VALUE - 65279};
        int[] octets = {0, 1, 2, 255, 254};
        for (int secret : secrets) {
            for (int first : octets) {
                for (int last : octets) {
                    long sum = secret + 255L * first + last;
                    fits(sum % 3 == 0, secret, Check.row(2, first, last), Check.row(1, 255));
                }
            }
        }
    }

    private static void fits(boolean want, int secret, int[] signature, int[] key) {
        ScriptDesk desk = new ScriptDesk();
        desk.secret(secret);
        int[] codes = Check.join(Check.row(89), signature, key, Check.row(172));
        String name = Arrays.toString(codes) + " with secret " + secret;
        Check.due("run of " + name, Check.runOf(desk, codes), 1);
        Check.due("stack after " + name, Check.stackOf(desk), want ? "09 01" : "09 -");
        Check.due("asked by " + name, desk.count(1), 1);
    }

    /** "172 s k: whether signature s FITS key k, as a number; 173 the same, and 105 behind it." */
    private static void oneSignatureAndOneKey() {
        for (int code = 172; code <= 173; code++) {
            Check.due("none asked", Check.faults(5, 0, code).count(1), 0);
            Check.due("none asked", Check.faults(5, 1, 81, code).count(1), 0);
        }
        // A signature 1 fits the key 2 and not the key 1; a signature 3 fits the key 1, but 1 does not fit the key 3.
        Check.leaves("01", 81, 82, 172);
        Check.leaves("", 81, 82, 173);
        Check.leaves("-", 81, 81, 172);
        Check.due("one asked", Check.faults(8, 2, 81, 81, 173).count(1), 1);
        Check.leaves("01", 1, 3, 1, 1, 172);
        Check.leaves("-", 1, 1, 1, 3, 172);
    }

    /** "174 x s1 .. sm m k1 .. kn n (0 <= n <= 8, 0 <= m <= n": each n and m, where all fit and where none does. */
    private static void nIsUpTo8AndMUpToN() {
        for (int n = 0; n <= 8; n++) {
            for (int m = 0; m <= n; m++) {
                many(n, m, 1, 1, m);
                many(n, m, 0, m == 0 ? 1 : 0, m == 0 ? 0 : n - m + 1);
            }
        }
    }

    /** All signatures and keys are 1: with the secret 1 they fit, with 0 they do not. */
    private static void many(int n, int m, int secret, int want, int pairs) {
        int[] codes = Check.join(Check.row(89, 0), Check.times(m, 81), Check.pushOf(m), Check.times(n, 81), Check.pushOf(n));
        String name = m + " of " + n + " with secret " + secret;
        ScriptDesk desk = new ScriptDesk();
        desk.secret(secret);
        Check.due("174 " + name, Check.runOf(desk, Check.join(codes, Check.row(174))), 1);
        Check.due("stack of " + name, Check.stackOf(desk), want == 1 ? "09 01" : "09 -");
        Check.due("pairs of " + name, desk.count(1), pairs);
        Check.due("operations of " + name, desk.count(0), 1 + n);
        desk.clear();
        Check.due("175 " + name, Check.runOf(desk, Check.join(codes, Check.row(175))), want == 1 ? 1 : -9);
        Check.due("place of " + name, desk.place(), want == 1 ? -1 : codes.length);
        Check.due("left by 175 " + name, Check.stackOf(desk), want == 1 ? "09" : "");
        Check.due("pairs of 175 " + name, desk.count(1), pairs);
        Check.due("operations of 175 " + name, desk.count(0), 1 + n);
    }

    private static void nAndMBehindTheirBounds() {
        long[] wrong = {-1, -2, 9, 10, 127, 128, 255, 256, 264, MOST, -MOST};
        for (int code = 174; code <= 175; code++) {
            for (long n : wrong) {
                int[] codes = Check.join(Check.times(30, 81), Check.pushOf(n));
                ScriptDesk desk = Check.faults(7, codes.length, Check.join(codes, Check.row(code)));
                Check.due("no key is counted", desk.count(0), 1);
            }
            for (int n = 0; n <= 8; n++) {
                long[] wrongM = {-1, n + 1, n + 2, 9, 256, MOST, -MOST};
                for (long m : wrongM) {
                    int[] codes = Check.join(Check.times(20, 81), Check.pushOf(m), Check.times(n, 81), Check.pushOf(n));
                    ScriptDesk desk = Check.faults(7, codes.length, Check.join(codes, Check.row(code)));
                    Check.due("the keys are counted", desk.count(0), 1 + n);
                    Check.due("none is asked", desk.count(1), 0);
                }
            }
        }
        // A 0 with a sign is 0, and numbers may be longer than they need be.
        Check.leaves("01", 0, 1, 128, 1, 128, 174);
        Check.leaves("01", 0, 83, 2, 1, 0, 83, 3, 1, 0, 0, 174);
    }

    private static void everyElementOf174IsNeeded() {
        for (int code = 174; code <= 175; code++) {
            for (int n = 0; n <= 8; n++) {
                for (int m = 0; m <= n; m++) {
                    missingOne(code, n, m);
                }
            }
        }
    }

    /** Every element is one byte of script here, so that leaving out the first bytes takes away the lowest elements. */
    private static void missingOne(int code, int n, int m) {
        int[] all = Check.join(Check.row(0), Check.times(m, 83), small(m), Check.times(n, 83), small(n));
        Check.ends(175 - code, Check.join(all, Check.row(code)));
        for (int left = 0; left < all.length; left++) {
            int[] rest = Arrays.copyOfRange(all, all.length - left, all.length);
            ScriptDesk desk = Check.faults(5, left, Check.join(rest, Check.row(code)));
            Check.due("none asked", desk.count(1), 0);
            Check.due("keys are counted when n is read", desk.count(0), left == 0 ? 1 : 1 + n);
        }
    }

    private static int[] small(int number) {
        return Check.row(number == 0 ? 0 : 80 + number);
    }

    /** "x any element, which is taken". */
    private static void xIsAnyElement() {
        int[] rest = {83, 81, 81, 81};
        Check.leaves("09 01", Check.join(Check.row(89, 0), rest, Check.row(174)));
        Check.leaves("09 01", Check.join(Check.row(89, 1, 0), rest, Check.row(174)));
        Check.leaves("09 01", Check.join(Check.row(89, 79), rest, Check.row(174)));
        Check.leaves("09 01", Check.join(Check.row(89), Check.sevens(120), rest, Check.row(174)));
        Check.leaves("09", Check.join(Check.row(89), Check.sevens(120), rest, Check.row(175)));
    }

    /** With the secret 0, a signature 1 fits the keys 2 and 5 alone, a signature 3 fits every key. */
    private static void signaturesFitKeysInTheirOrder() {
        asked("01", 1, 0, 81, 81, 81, 82, 82, 174);
        asked("01", 2, 0, 81, 81, 82, 81, 82, 174);
        asked("-", 2, 0, 81, 81, 81, 81, 82, 174);
        // The last signature is asked first, and takes the last key, which the first one would need.
        asked("-", 2, 0, 81, 83, 82, 81, 82, 82, 174);
        asked("01", 2, 0, 83, 81, 82, 81, 82, 82, 174);
        // A key that did not fit is done, also for the signatures before.
        asked("-", 2, 0, 83, 81, 82, 82, 81, 81, 83, 174);
        asked("01", 3, 0, 83, 81, 82, 81, 82, 81, 83, 174);
        asked("-", 3, 0, 81, 83, 82, 81, 81, 81, 83, 174);
        asked("01", 3, 0, 81, 83, 82, 82, 81, 81, 83, 174);
    }

    /** "until no signatures are left (1), or more signatures than keys (0)". */
    private static void askingEndsAsSoonAsItIsClear() {
        // One signature: the last key fits, so that the seven others are not asked.
        asked("01", 1, 0, 81, 81, 81, 81, 81, 81, 81, 81, 81, 82, 88, 174);
        asked("01", 8, 0, 81, 81, 82, 81, 81, 81, 81, 81, 81, 81, 88, 174);
        asked("-", 8, 0, 81, 81, 81, 81, 81, 81, 81, 81, 81, 81, 88, 174);
        // As many signatures as keys: the first pair that does not fit ends it.
        asked("-", 1, 0, 81, 81, 81, 83, 82, 82, 81, 83, 174);
        asked("-", 3, 0, 81, 81, 81, 83, 81, 82, 82, 83, 174);
        // One more key than signatures: the second one ends it.
        asked("-", 3, 0, 81, 81, 82, 81, 82, 81, 83, 174);
        asked("-", 2, 0, 81, 81, 82, 82, 81, 81, 83, 174);
        asked("01", 0, 0, 0, 81, 81, 82, 174);
    }

    private static void asked(String top, int pairs, int... codes) {
        ScriptDesk desk = Check.leaves(top, codes);
        Check.due("pairs of " + Arrays.toString(codes), desk.count(1), pairs);
    }
}
