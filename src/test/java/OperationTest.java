/** Every operation of the document on ordinary operands and at its edges (promise 4). */
public final class OperationTest {
    public static void main(String[] args) {
        pushes();
        flow();
        moves();
        likeness();
        numbersOfOne();
        numbersOfTwo();
        within();
        longNumbers();
        oneSignature();
        manySignatures();
        Check.end("OperationTest");
    }

    private static void pushes() {
        Check.leaves("", new int[0]);
        Check.leaves("-", 0);
        Check.leaves("09", 1, 9);
        for (int many = 1; many <= 75; many++) {
            Check.leaves("09".repeat(many) + " 01", Check.join(Check.row(many), Check.times(many, 9), Check.row(81)));
        }
        Check.leaves("-", 76, 0);
        Check.leaves("05 01", 76, 1, 5, 81);
        Check.leaves("07".repeat(120), Check.sevens(120));
        Check.leaves("-", 77, 0, 0);
        Check.leaves("0506 01", 77, 2, 0, 5, 6, 81);
        Check.leaves("07".repeat(120), Check.join(Check.row(77, 120, 0), Check.times(120, 7)));
        Check.leaves("81", 79);
        for (int number = 1; number <= 16; number++) {
            Check.leaves(String.format("%02x", number), 80 + number);
        }
        Check.leaves("01", 81, 97);
    }

    private static void flow() {
        Check.leaves("02", 81, 99, 82, 104);
        Check.leaves("", 0, 99, 82, 104);
        Check.leaves("", 1, 128, 99, 82, 104);
        Check.leaves("02", 0, 100, 82, 104);
        Check.leaves("", 81, 100, 82, 104);
        Check.leaves("02 04", 81, 99, 82, 103, 83, 104, 84);
        Check.leaves("03 04", 0, 99, 82, 103, 83, 104, 84);
        Check.leaves("03 04", 81, 100, 82, 103, 83, 104, 84);
        Check.leaves("02 04 06", 81, 99, 82, 103, 83, 103, 84, 103, 85, 104, 86);
        Check.leaves("03 05 06", 0, 99, 82, 103, 83, 103, 84, 103, 85, 104, 86);
        // Inside a part not done, pairs are counted and take nothing, whatever their 103 turns.
        Check.leaves("05 06", 85, 0, 99, 99, 82, 103, 83, 104, 100, 84, 103, 103, 104, 104, 86);
        Check.leaves("03", 0, 99, 99, 103, 81, 104, 103, 83, 104);
        Check.leaves("03", 81, 99, 0, 99, 82, 103, 83, 104, 103, 84, 104);
        Check.leaves("", 0, 99, 106, 105, 107, 117, 255, 98, 101, 102, 78, 80, 167, 171, 200, 104);
        Check.leaves("01", Check.join(Check.times(33, 81, 99), Check.row(81), Check.times(33, 104)));
        Check.leaves("", Check.join(Check.row(0), Check.times(50, 99), Check.times(50, 104)));
        Check.leaves("02", 82, 81, 105);
        Check.leaves("", 2, 0, 1, 105);
    }

    private static void moves() {
        Check.leaves("01 02", 81, 82, 107, 108);
        Check.leaves("02 01 03", 81, 82, 83, 107, 124, 108);
        Check.leaves("01 02 03", 81, 82, 83, 107, 107, 108, 108);
        Check.leaves("01 03 02", 81, 82, 107, 83, 108);
        Check.leaves("01", 81, 82, 83, 109);
        Check.leaves("09 01 02 01 02", 89, 81, 82, 110);
        Check.leaves("09 01 02 03 01 02 03", 89, 81, 82, 83, 111);
        Check.leaves("09 01 02 03 04 01 02", 89, 81, 82, 83, 84, 112);
        Check.leaves("09 03 04 05 06 01 02", 89, 81, 82, 83, 84, 85, 86, 113);
        Check.leaves("09 03 04 01 02", 89, 81, 82, 83, 84, 114);
        Check.leaves("01 01", 81, 115);
        Check.leaves("-", 0, 115);
        Check.leaves("80", 1, 128, 115);
        Check.leaves("0080", 2, 0, 128, 115);
        Check.leaves("-", 116);
        Check.leaves("- 01 02", 116, 116, 116);
        Check.leaves("05 01", 85, 86, 107, 116);
        Check.leaves("01", 81, 82, 117);
        Check.leaves("01 02 02", 81, 82, 118);
        Check.leaves("09 02", 89, 81, 82, 119);
        Check.leaves("09 01 02 01", 89, 81, 82, 120);
        Check.leaves("01 02 03 03", 81, 82, 83, 0, 121);
        Check.leaves("01 02 03 03", 81, 82, 83, 1, 128, 121);
        Check.leaves("01 02 03 01", 81, 82, 83, 4, 2, 0, 0, 0, 121);
        Check.leaves("01 02 03", 81, 82, 83, 0, 122);
        Check.leaves("01 03 02", 81, 82, 83, 81, 122);
        Check.leaves("02 03 01", 81, 82, 83, 82, 122);
        Check.leaves("09 02 03 01", 89, 81, 82, 83, 123);
        Check.leaves("09 02 01", 89, 81, 82, 124);
        Check.leaves("09 02 01 02", 89, 81, 82, 125);
        // An element without bytes is moved and copied as any other.
        Check.leaves("- -", 0, 118);
        Check.leaves("- 01 - 01", 0, 81, 110);
        Check.leaves("- 01 -", 0, 81, 120);
        Check.leaves("- 01 -", 0, 81, 81, 121);
        Check.leaves("01 -", 0, 81, 81, 122);
        Check.leaves("- 01 -", 81, 0, 125);
        Check.leaves("- -", 0, 130);
        Check.leaves("0102 02", 2, 1, 2, 130);
        Check.leaves("07".repeat(120) + " 78", Check.join(Check.sevens(120), Check.row(130)));
        Check.leaves("07".repeat(120) + " " + "07".repeat(120), Check.join(Check.sevens(120), Check.row(118)));
    }

    private static void likeness() {
        Check.leaves("09 01", 89, 81, 81, 135);
        Check.leaves("-", 81, 82, 135);
        Check.leaves("01", 0, 0, 135);
        Check.leaves("-", 0, 1, 0, 135);
        Check.leaves("-", 0, 1, 128, 135);
        Check.leaves("-", 1, 5, 2, 5, 0, 135);
        Check.leaves("-", 3, 5, 6, 7, 3, 5, 6, 8, 135);
        Check.leaves("01", 3, 5, 6, 7, 3, 5, 6, 7, 135);
        Check.leaves("09", 89, 82, 82, 136);
    }

    private static void numbersOfOne() {
        ofOne(139, 0, 1);
        ofOne(139, -1, 0);
        ofOne(139, 127, 128);
        ofOne(139, 255, 256);
        ofOne(139, 2147483647L, 2147483648L);
        ofOne(140, 0, -1);
        ofOne(140, 1, 0);
        ofOne(140, -127, -128);
        ofOne(140, -2147483647L, -2147483648L);
        ofOne(143, 0, 0);
        ofOne(143, 5, -5);
        ofOne(143, -2147483647L, 2147483647L);
        ofOne(144, 0, 0);
        ofOne(144, -300, 300);
        ofOne(144, 300, 300);
        ofOne(145, 0, 1);
        ofOne(145, 1, 0);
        ofOne(145, -1, 0);
        ofOne(146, 0, 0);
        ofOne(146, 2, 1);
        ofOne(146, -2, 1);
        // Operands may be longer than they need be, and 0 may bear a sign; results never.
        Check.leaves("-", 1, 128, 143);
        Check.leaves("-", 4, 0, 0, 0, 128, 144);
        Check.leaves("01", 2, 0, 128, 145);
        Check.leaves("-", 3, 0, 0, 0, 146);
        Check.leaves("85", 3, 5, 0, 0, 143);
        Check.leaves("05", 3, 5, 0, 128, 143);
        Check.leaves("ff00", 3, 254, 0, 0, 139);
        Check.leaves("ff80", 2, 254, 128, 140);
        Check.leaves("ff7f", 2, 254, 127, 139);
        Check.leaves("008000", 2, 255, 127, 139);
        Check.leaves("008080", 2, 255, 255, 140);
    }

    private static void numbersOfTwo() {
        long[] values = {0, 1, -1, 2, -2, 127, -127, 128, -128, 255, -256, 32767, -32768, 2147483647L, -2147483647L};
        for (long a : values) {
            for (long b : values) {
                ofTwo(147, a, b, a + b);
                ofTwo(148, a, b, a - b);
                ofTwo(154, a, b, a != 0 && b != 0 ? 1 : 0);
                ofTwo(155, a, b, a == 0 && b == 0 ? 0 : 1);
                ofTwo(156, a, b, a == b ? 1 : 0);
                ofTwo(158, a, b, a == b ? 0 : 1);
                ofTwo(159, a, b, a < b ? 1 : 0);
                ofTwo(160, a, b, a > b ? 1 : 0);
                ofTwo(161, a, b, a > b ? 0 : 1);
                ofTwo(162, a, b, a < b ? 0 : 1);
                ofTwo(163, a, b, a < b ? a : b);
                ofTwo(164, a, b, a > b ? a : b);
            }
        }
        Check.leaves("09", 89, 82, 82, 157);
        Check.leaves("09", 89, 82, 3, 2, 0, 0, 157);
        Check.leaves("01", 1, 128, 0, 156);
        Check.leaves("05", 3, 5, 0, 0, 86, 163);
    }

    private static void within() {
        for (long x = -3; x <= 3; x++) {
            for (long a = -2; a <= 2; a++) {
                for (long b = -2; b <= 2; b++) {
                    int[] codes = Check.join(Check.row(89), Check.pushOf(x), Check.pushOf(a), Check.pushOf(b), Check.row(165));
                    Check.leaves(a <= x && x < b ? "09 01" : "09 -", codes);
                }
            }
        }
    }

    private static void longNumbers() {
        Check.leaves("0000008000", 4, 255, 255, 255, 127, 139);
        Check.leaves("0000008080", 4, 255, 255, 255, 255, 140);
        Check.leaves("feffffff00", 4, 255, 255, 255, 127, 118, 147);
        Check.leaves("feffffff80", 4, 255, 255, 255, 255, 118, 147);
    }

    private static void ofOne(int code, long a, long want) {
        Check.leaves("09 " + Check.numberText(want), Check.join(Check.row(89), Check.pushOf(a), Check.row(code)));
    }

    private static void ofTwo(int code, long a, long b, long want) {
        Check.leaves("09 " + Check.numberText(want), Check.join(Check.row(89), Check.pushOf(a), Check.pushOf(b), Check.row(code)));
    }

    private static void oneSignature() {
        Check.leaves("09 01", 89, 2, 5, 7, 2, 9, 4, 172);
        Check.leaves("-", 2, 5, 8, 2, 9, 4, 172);
        // Its first and last byte, and the key's last one, are what counts.
        Check.leaves("01", 4, 5, 99, 98, 7, 3, 77, 66, 4, 172);
        Check.leaves("-", 2, 4, 7, 2, 9, 4, 172);
        Check.leaves("01", 1, 255, 1, 255, 172);
        Check.leaves("01", 83, 1, 0, 172);
        // Two elements without the bytes that THE RULE asks for, where its sum alone would be divisible.
        Check.leaves("-", 0, 81, 172);
        Check.leaves("-", 83, 0, 172);
        Check.leaves("-", 0, 0, 172);
        Check.leaves("09", 89, 83, 83, 173);
    }

    private static void manySignatures() {
        Check.leaves("09 01", 89, 0, 0, 0, 174);
        Check.leaves("09 01", 89, 88, 0, 81, 81, 174);
        asked(0, 89, 85, 0, 81, 82, 82, 174);
        // A signature a and a key b fit with secret 0 if a * b + a is divisible by 3: b = 2, 5, .. or a = 3, 6, ..
        fitting("01", 1, 0, 81, 81, 82, 81, 174);
        fitting("-", 1, 0, 81, 81, 81, 81, 174);
        fitting("01", 2, 0, 81, 81, 82, 81, 82, 174);
        fitting("01", 1, 0, 81, 81, 81, 82, 82, 174);
        fitting("-", 2, 0, 81, 81, 81, 81, 82, 174);
        fitting("01", 2, 0, 81, 83, 82, 82, 81, 82, 174);
        // In their order: the last signature takes the last key, and the first one finds none left.
        fitting("-", 2, 0, 81, 83, 82, 81, 81, 82, 174);
        fitting("-", 1, 0, 83, 81, 82, 82, 81, 82, 174);
        fitting("01", 3, 0, 83, 81, 82, 81, 82, 81, 83, 174);
        // The pairs of several operations add up.
        fitting("01", 3, 0, 83, 83, 82, 81, 81, 82, 174, 117, 0, 81, 81, 82, 81, 174);
        fitting("01", 8, 0, 83, 83, 83, 83, 83, 83, 83, 83, 88, 81, 82, 83, 84, 85, 86, 87, 88, 88, 174);
        fitting("01", 8, 0, 81, 81, 82, 81, 81, 81, 81, 81, 81, 81, 88, 174);
        fitting("-", 8, 0, 81, 81, 81, 81, 81, 81, 81, 81, 81, 81, 88, 174);
        Check.leaves("09", 89, 0, 81, 81, 82, 81, 175);
        Check.leaves("09", 89, 0, 0, 0, 175);
    }

    private static void asked(int pairs, int... codes) {
        ScriptDesk desk = new ScriptDesk();
        Check.due("run", Check.runOf(desk, codes), 1);
        Check.due("pairs of " + java.util.Arrays.toString(codes), desk.count(1), pairs);
    }

    private static void fitting(String top, int pairs, int... codes) {
        Check.leaves(top, codes);
        asked(pairs, codes);
    }
}
