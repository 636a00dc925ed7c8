import java.util.Arrays;

/** The bounds in the document's "Terms" up to its operations: a method for each sentence, at and behind the bound. */
public final class TermsEdgeTest {
    private static final int[] OF_ONE = {139, 140, 143, 144, 145, 146};
    private static final int[] OF_TWO = {147, 148, 154, 155, 156, 157, 158, 159, 160, 161, 162, 163, 164};

    public static void main(String[] args) {
        anElementHasUpTo120Bytes();
        everyByteOfALongElementIsKept();
        theStacksTogetherHaveUpTo60();
        elementsOfEarlierRunsCount();
        whatAddsStopsBehind60();
        whatAddsNothingRunsAt60();
        theTopIsTheLastOne();
        anElementIsTrueUnlessItsLastByteAloneIs128();
        everyTruthIsOfThisKind();
        noBytesAreTheNumber0();
        theHighestBitOfTheLastByteIsASign();
        anOperandHasUpTo4Bytes();
        whatIsNoNumberMayBeLonger();
        aResultIsAsShortAsItCanBe();
        aScriptHasUpTo200Bytes();
        aScriptIsGoneOverToItsLastByte();
        Check.end("TermsEdgeTest");
    }

    /** "An ELEMENT are 0 .. 120 bytes." */
    private static void anElementHasUpTo120Bytes() {
        for (int many = 0; many <= 197; many++) {
            int[] by77 = Check.join(Check.row(77, many, 0), Check.times(many, 7));
            if (many <= 120) {
                Check.due("bytes by 76", Check.ends(1, Check.sevens(many)).bytes(0), many);
                Check.due("bytes by 77", Check.ends(1, by77).bytes(0), many);
            } else {
                Check.faults(2, 0, Check.sevens(many));
                Check.faults(2, 0, by77);
            }
        }
        Check.faults(2, 0, Check.sevens(198));
    }

    private static void everyByteOfALongElementIsKept() {
        int[] push = new int[122];
        StringBuilder text = new StringBuilder();
        push[0] = 76;
        push[1] = 120;
        for (int i = 0; i < 120; i++) {
            push[2 + i] = (i * 151 + 3) % 256;
            text.append(String.format("%02x", push[2 + i]));
        }
        String one = text.toString();
        Check.leaves(one, push);
        Check.leaves(one + " " + one, Check.join(push, Check.row(118)));
        Check.leaves(one + " 01 " + one, Check.join(push, Check.row(81, 120)));
        Check.leaves(one + " 01 " + one, Check.join(push, Check.row(81, 81, 121)));
        Check.leaves("01 " + one, Check.join(push, Check.row(81, 81, 122)));
        Check.leaves(one + " 01 " + one + " 01", Check.join(push, Check.row(81, 110)));
        Check.leaves(one + " 01 02 " + one + " 01 02", Check.join(push, Check.row(81, 82, 111)));
        Check.leaves(one + " 01 02 03 " + one + " 01", Check.join(push, Check.row(81, 82, 83, 112)));
        Check.leaves(one + " 01 " + one, Check.join(Check.row(81), push, Check.row(125)));
        Check.leaves("01 " + one, Check.join(push, Check.row(107, 81, 108)));
        Check.leaves("01 " + one, Check.join(Check.row(81), push, Check.row(115, 119)));
        // A shorter element in the same place shows nothing of a longer one.
        ScriptDesk desk = Check.leaves("09", Check.join(push, Check.row(117, 1, 9)));
        Check.due("nothing behind its last byte", desk.byteOf(0, 1), -1);
    }

    /** "There are a STACK and a SIDE stack of elements, together at most 60." */
    private static void theStacksTogetherHaveUpTo60() {
        for (int aside = 0; aside <= 60; aside++) {
            int[] all = Check.join(Check.times(aside, 81, 107), Check.times(60 - aside, 82));
            Check.ends(60 - aside, all);
            Check.faults(11, 60 + aside, Check.join(all, Check.row(83)));
            Check.faults(11, 60 + aside, Check.join(all, Check.row(0)));
        }
        // What comes back from the side stack is no more than before, and a place that is free may be used.
        Check.ends(60, Check.join(Check.times(60, 81), Check.times(50, 107), Check.times(50, 108)));
        Check.ends(60, Check.join(Check.times(60, 81), Check.row(107, 108)));
        Check.ends(60, Check.join(Check.times(60, 81), Check.row(117, 81)));
        Check.ends(59, Check.join(Check.times(60, 81), Check.row(107, 117, 81)));
        Check.faults(11, 62, Check.join(Check.times(60, 81), Check.row(107, 108, 81)));
    }

    private static void elementsOfEarlierRunsCount() {
        ScriptDesk desk = Check.ends(60, Check.times(60, 81));
        Check.due("a run without a push at 60", Check.runOf(desk, 97), 1);
        Check.due("an empty run at 60", desk.run(), 1);
        Check.due("60 stay", desk.size(), 60);
        Check.due("one for another", Check.runOf(desk, 117, 82), 1);
        Check.due("still 60", desk.size(), 60);
        Check.due("one to the side", Check.runOf(desk, 107), 1);
        Check.due("which is gone", desk.size(), 59);
        Check.due("so one has place", Check.runOf(desk, 83), 1);
        Check.due("60 again", desk.size(), 60);
        Check.due("but one more", Check.runOf(desk, 97, 84), -12);
        Check.due("its place", desk.place(), 1);
        Check.due("none is left", desk.size(), 0);
        Check.due("all 60 have place again", Check.runOf(desk, Check.times(60, 81)), 1);
        Check.due("60 once more", desk.size(), 60);
    }

    private static void whatAddsStopsBehind60() {
        int[][] adding = {{110, 2}, {111, 3}, {112, 2}, {115, 1}, {116, 1}, {118, 1}, {120, 1}, {125, 1}, {130, 1},
            {79, 1}, {81, 1}, {96, 1}, {0, 1}};
        for (int[] add : adding) {
            for (int aside = 0; aside <= 50; aside += 25) {
                int[] most = Check.join(Check.times(aside, 81, 107), Check.times(60 - aside - add[1], 81));
                Check.ends(60 - aside, Check.join(most, Check.row(add[0])));
                for (int over = 1; over <= add[1]; over++) {
                    int[] more = Check.join(most, Check.times(over, 81));
                    Check.faults(11, more.length, Check.join(more, Check.row(add[0])));
                }
            }
        }
        Check.faults(11, 60, Check.join(Check.times(60, 81), Check.row(1, 9)));
        Check.faults(11, 60, Check.join(Check.times(60, 81), Check.sevens(120)));
        Check.faults(11, 60, Check.join(Check.times(60, 81), Check.row(77, 1, 0, 9)));
    }

    /** With the secret 1 every signature 1 fits every key 1. */
    private static void whatAddsNothingRunsAt60() {
        int[][] sizes = {{97, 60}, {105, 59}, {107, 59}, {109, 58}, {113, 60}, {114, 60}, {117, 59}, {119, 59}, {121, 60},
            {122, 59}, {123, 60}, {124, 60}, {135, 59}, {136, 58}, {139, 60}, {140, 60}, {143, 60}, {144, 60}, {145, 60},
            {146, 60}, {147, 59}, {148, 59}, {154, 59}, {155, 59}, {156, 59}, {157, 58}, {158, 59}, {159, 59}, {160, 59},
            {161, 59}, {162, 59}, {163, 59}, {164, 59}, {165, 58}, {166, 60}, {168, 60}, {169, 60}, {170, 60}, {172, 59},
            {173, 58}, {174, 56}, {175, 55}};
        for (int[] size : sizes) {
            ScriptDesk desk = new ScriptDesk();
            desk.secret(1);
            Check.due("60", Check.runOf(desk, Check.times(60, 81)), 1);
            Check.due(size[0] + " at 60", Check.runOf(desk, size[0]), 1);
            Check.due("size after " + size[0], desk.size(), size[1]);
        }
        Check.ends(60, Check.join(Check.times(59, 81), Check.row(0, 115)));
        Check.ends(59, Check.join(Check.times(60, 81), Check.row(99, 104)));
        Check.ends(59, Check.join(Check.times(60, 81), Check.row(100, 81, 81, 118, 111, 104)));
    }

    /** "The TOP is the last one of the stack". */
    private static void theTopIsTheLastOne() {
        ScriptDesk desk = Check.leaves("01 02 03", 81, 82, 83);
        Check.due("the top", desk.byteOf(0, 0), 3);
        Check.due("the first", desk.byteOf(2, 0), 1);
        Check.due("none below it", desk.byteOf(3, 0), -1);
    }

    /** "An element is TRUE if some byte is not 0, unless that is the last one alone, and 128." */
    private static void anElementIsTrueUnlessItsLastByteAloneIs128() {
        truth(false);
        for (int many = 1; many <= 120; many++) {
            truth(false, new int[many]);
            truth(false, with(many, many - 1, 128));
            truth(true, with(many, many - 1, 1));
            truth(true, with(many, many - 1, 127));
            truth(true, with(many, many - 1, 129));
            truth(true, with(many, many - 1, 255));
            for (int i = 0; i < many - 1; i += i < 4 || i >= many - 3 ? 1 : many - 6) {
                truth(true, with(many, i, 1));
                truth(true, with(many, i, 128));
                int[] both = with(many, i, 128);
                both[many - 1] = 128;
                truth(true, both);
            }
        }
    }

    private static int[] with(int many, int at, int octet) {
        int[] row = new int[many];
        row[at] = octet;
        return row;
    }

    private static void truth(boolean want, int... octets) {
        ScriptDesk desk = new ScriptDesk();
        Check.runOf(desk, Check.join(Check.row(76, octets.length), octets));
        Check.due("truth of " + Arrays.toString(octets), desk.isTrue(), want);
    }

    private static void everyTruthIsOfThisKind() {
        int[][] untrue = {{0}, {1, 0}, {1, 128}, {2, 0, 128}, {4, 0, 0, 0, 0}, {5, 0, 0, 0, 0, 128}};
        int[][] areTrue = {{1, 1}, {1, 127}, {1, 129}, {2, 128, 0}, {2, 128, 128}, {5, 0, 0, 0, 128, 0}, {5, 0, 0, 0, 0, 127}};
        for (int[] push : untrue) {
            Check.leaves("03", Check.join(push, Check.row(99, 82, 103, 83, 104)));
            Check.leaves("02", Check.join(push, Check.row(100, 82, 103, 83, 104)));
            Check.faults(8, push.length, Check.join(push, Check.row(105)));
            Check.ends(1, Check.join(push, Check.row(115)));
        }
        for (int[] push : areTrue) {
            Check.leaves("02", Check.join(push, Check.row(99, 82, 103, 83, 104)));
            Check.leaves("03", Check.join(push, Check.row(100, 82, 103, 83, 104)));
            Check.leaves("", Check.join(push, Check.row(105)));
            Check.ends(2, Check.join(push, Check.row(115)));
        }
    }

    /** "A NUMBER as an element: no bytes are 0". */
    private static void noBytesAreTheNumber0() {
        Check.leaves("01", 0, 145);
        Check.leaves("-", 0, 146);
        Check.leaves("01", 0, 139);
        Check.leaves("81", 0, 140);
        Check.leaves("-", 0, 143);
        Check.leaves("-", 0, 0, 147);
        Check.leaves("01", 0, 1, 0, 156);
        Check.leaves("05 05", 85, 0, 121);
        Check.leaves("01", 0, 0, 0, 174);
    }

    /** "the highest bit of the last byte is a sign (1: below 0), the other bits the size." */
    private static void theHighestBitOfTheLastByteIsASign() {
        isNumber(127, 127);
        isNumber(0, 128);
        isNumber(-1, 129);
        isNumber(-127, 255);
        isNumber(0, 0);
        isNumber(255, 255, 0);
        isNumber(-255, 255, 128);
        isNumber(128, 128, 0);
        isNumber(-128, 128, 128);
        isNumber(0, 0, 128);
        isNumber(256, 0, 1);
        isNumber(-256, 0, 129);
        isNumber(32767, 255, 127);
        isNumber(-32767, 255, 255);
        isNumber(8388607, 255, 255, 127);
        isNumber(-8388607, 255, 255, 255);
        isNumber(-5, 5, 0, 128);
        isNumber(2147483647L, 255, 255, 255, 127);
        isNumber(-2147483647L, 255, 255, 255, 255);
        isNumber(16777215, 255, 255, 255, 0);
        isNumber(-16777215, 255, 255, 255, 128);
        isNumber(0, 0, 0, 0, 128);
        isNumber(0, 0, 0, 0, 0);
        isNumber(-1, 1, 0, 0, 128);
        isNumber(1, 1, 0, 0, 0);
    }

    private static void isNumber(long value, int... octets) {
        int[] push = Check.join(Check.row(octets.length), octets);
        Check.leaves(Check.numberText(value), Check.join(push, Check.row(0, 147)));
        Check.leaves(Check.numberText(-value), Check.join(push, Check.row(143)));
        Check.leaves(Check.numberText(Math.abs(value)), Check.join(push, Check.row(144)));
        Check.leaves(value == 0 ? "01" : "-", Check.join(push, Check.row(145)));
        Check.leaves("01", Check.join(push, Check.pushOf(value), Check.row(156)));
        Check.leaves("01", Check.join(push, Check.pushOf(0), Check.row(value < 0 ? 159 : 162)));
    }

    /** "As an operand it may have at most 4 bytes." */
    private static void anOperandHasUpTo4Bytes() {
        for (int code : OF_ONE) {
            operandOf(code, 1);
        }
        for (int code : OF_TWO) {
            operandOf(code, 2);
        }
        operandOf(165, 3);
        // n of 121, 122, 174, 175, and m.
        for (int code = 121; code <= 122; code++) {
            Check.ends(code == 121 ? 3 : 2, Check.join(Check.row(81, 81, 4, 1, 0, 0, 0, code)));
            Check.faults(6, 8, 81, 81, 5, 1, 0, 0, 0, 0, code);
        }
        Check.leaves("01", 0, 83, 81, 81, 4, 1, 0, 0, 0, 174);
        Check.faults(6, 10, 0, 83, 81, 81, 5, 1, 0, 0, 0, 0, 174);
        Check.leaves("01", 0, 83, 4, 1, 0, 0, 0, 81, 81, 174);
        Check.faults(6, 10, 0, 83, 5, 1, 0, 0, 0, 0, 81, 81, 174);
        Check.leaves("", 0, 83, 4, 1, 0, 0, 0, 4, 1, 0, 0, 0, 4, 1, 0, 0, 0, 175);
        Check.faults(6, 10, 0, 83, 81, 81, 5, 1, 0, 0, 0, 0, 175);
        Check.faults(6, 10, 0, 83, 5, 1, 0, 0, 0, 0, 81, 81, 175);
    }

    /** The number 1 with one byte and with four at each place, then with five and with 120. */
    private static void operandOf(int code, int operands) {
        for (int place = 0; place < operands; place++) {
            for (int many = 1; many <= 120; many += many < 6 ? 1 : 57) {
                int[] element = Check.join(Check.row(76, many, 1), new int[many - 1]);
                int[] codes = Check.join(Check.times(place, 81), element, Check.times(operands - 1 - place, 81));
                if (many <= 4) {
                    Check.ends(code == 157 ? 0 : 1, Check.join(codes, Check.row(code)));
                } else {
                    Check.faults(6, codes.length, Check.join(codes, Check.row(code)));
                }
            }
        }
    }

    private static void whatIsNoNumberMayBeLonger() {
        int[] five = {4, 255, 255, 255, 127, 139};
        Check.leaves("0000008000 05", Check.join(five, Check.row(130)));
        Check.leaves("0000008000 0000008000", Check.join(five, Check.row(118)));
        Check.leaves("01", Check.join(five, five, Check.row(135)));
        Check.leaves("02", Check.join(five, Check.row(99, 82, 104)));
        Check.leaves("", Check.join(five, Check.row(105)));
        Check.leaves("0000008000 01", Check.join(five, Check.row(81, 82, 119, 117, 116)));
        Check.due("a digest of it", Check.ends(1, Check.join(five, Check.row(168))).bytes(0), 32);
        // A signature, a key and x of 174 are no numbers.
        Check.leaves("-", Check.join(five, Check.row(82, 172, 105, 0)));
        Check.leaves("01", Check.join(five, five, Check.row(81, 82, 81, 174)));
        Check.leaves("-", Check.join(Check.row(0, 81, 81), five, Check.row(81, 174)));
        Check.faults(6, 6, Check.join(five, Check.row(139)));
        Check.faults(6, 6, Check.join(five, Check.row(143)));
    }

    /** "A result is written as short as it can be: 0 without bytes, without a last byte 0 or 128 that is not needed". */
    private static void aResultIsAsShortAsItCanBe() {
        result(0, "-");
        result(1, "01");
        result(-1, "81");
        result(127, "7f");
        result(-127, "ff");
        result(128, "8000");
        result(-128, "8080");
        result(255, "ff00");
        result(-255, "ff80");
        result(256, "0001");
        result(-256, "0081");
        result(32767, "ff7f");
        result(-32767, "ffff");
        result(32768, "008000");
        result(-32768, "008080");
        result(65535, "ffff00");
        result(-65535, "ffff80");
        result(65536, "000001");
        result(-65536, "000081");
        result(8388607, "ffff7f");
        result(-8388607, "ffffff");
        result(8388608, "00008000");
        result(-8388608, "00008080");
        result(16777215, "ffffff00");
        result(16777216, "00000001");
        result(-16777216, "00000081");
        result(2147483647L, "ffffff7f");
        result(-2147483647L, "ffffffff");
        result(2147483648L, "0000008000");
        result(-2147483648L, "0000008080");
        result(4294967294L, "feffffff00");
        result(-4294967294L, "feffffff80");
    }

    private static void result(long value, String text) {
        long half = value / 2;
        long rest = value - half;
        Check.leaves(text, Check.join(Check.pushOf(half), Check.pushOf(rest), Check.row(147)));
        Check.leaves(text, Check.join(Check.pushOf(half), Check.pushOf(-rest), Check.row(148)));
        if (isOperand(value - 1)) {
            Check.leaves(text, Check.join(Check.pushOf(value - 1), Check.row(139)));
        }
        if (isOperand(value + 1)) {
            Check.leaves(text, Check.join(Check.pushOf(value + 1), Check.row(140)));
        }
        if (isOperand(value)) {
            Check.leaves(text, Check.join(Check.pushOf(-value), Check.row(143)));
            Check.leaves(text, Check.join(Check.pushOf(value), Check.pushOf(2147483647L), Check.row(163)));
            Check.leaves(text, Check.join(Check.pushOf(value), Check.pushOf(-2147483647L), Check.row(164)));
        }
        if (isOperand(value) && value >= 0) {
            Check.leaves(text, Check.join(Check.pushOf(-value), Check.row(144)));
            Check.leaves(text, Check.join(Check.pushOf(value), Check.row(144)));
        }
    }

    private static boolean isOperand(long value) {
        return value >= -2147483647L && value <= 2147483647L;
    }

    /** "A SCRIPT are 0 .. 200 bytes": for each n of put the last one that has place, and the first that has not. */
    private static void aScriptHasUpTo200Bytes() {
        ScriptDesk none = new ScriptDesk();
        Check.due("a script without bytes", none.run(), 1);
        Check.due("place of it", none.place(), -1);
        int[] codes = Check.times(100, 81, 117);
        for (int n = 1; n <= 8; n++) {
            ScriptDesk desk = new ScriptDesk();
            Check.load(desk, Arrays.copyOf(codes, 200 - n));
            Check.due("put of " + n + " to 200", desk.put(Check.packed(codes, 200 - n, n), n), true);
            for (int more = 1; more <= 8; more++) {
                Check.due("put of " + more + " behind 200", desk.put(0L, more), false);
            }
            Check.due("run of 200", desk.run(), 1);
            Check.due("all of them", desk.count(0), 100);
            Check.due("and nothing else", desk.size(), 0);
            Check.load(desk, Arrays.copyOf(codes, 201 - n));
            Check.due("put of " + n + " to 201", desk.put(0L, n), false);
            Check.due("put of " + (n - 1) + " to 200", n == 1 || desk.put(0L, n - 1), true);
            Check.due("put of one more", desk.put(0L, 1), false);
        }
    }

    /** "gone over from the first on". */
    private static void aScriptIsGoneOverToItsLastByte() {
        int[] front = Check.join(Check.sevens(120), Check.row(117));
        Check.leaves("08".repeat(75), Check.join(front, Check.row(97, 75), Check.times(75, 8)));
        Check.faults(1, 124, Check.join(front, Check.row(97, 75), Check.times(74, 8)));
        Check.leaves("01", Check.join(front, Check.row(74), Check.times(74, 8), Check.row(117, 81)));
        Check.faults(9, 199, Check.join(front, Check.row(74), Check.times(74, 8), Check.row(117, 106)));
        Check.faults(1, 199, Check.join(front, Check.row(74), Check.times(74, 8), Check.row(117, 76)));
        Check.faults(1, 198, Check.join(front, Check.row(73), Check.times(73, 8), Check.row(117, 77, 0)));
        Check.faults(12, 200, Check.join(front, Check.row(74), Check.times(74, 8), Check.row(99, 81)));
        // Two hundred operations, none of them counted.
        Check.faults(11, 60, Check.times(200, 0));
        Check.leaves("", Check.times(100, 81, 117));
    }
}
