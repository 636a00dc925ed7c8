import java.util.Arrays;

/** The bounds in the document's table of operations: a method for each sentence, at and behind the bound. */
public final class OperationsEdgeTest {
    public static void main(String[] args) {
        aPushTakesTheNextSoManyBytes();
        code76ReadsOneByte();
        code77ReadsTwoTheLowerFirst();
        smallNumbersAreMinus1And1To16();
        code97DoesNothing();
        code99And100TakeTheTop();
        code103TurnsAnyNumberOfTimes();
        code104EndsTheLatest();
        partsNotDoneCountPairsAndTakeNothing();
        code105NeedsATrueTop();
        theSideStackGivesBackTheLatest();
        movesNeedExactlyTheirElements();
        elementsWithoutBytesAreMovedAsOthers();
        code116CountsTheStackAlone();
        nOf121And122IsBelowHowManyThereAre();
        code130CountsBytes();
        code135ComparesBytes();
        Check.end("OperationsEdgeTest");
    }

    /** "0 .. 75 push the next so many bytes". */
    private static void aPushTakesTheNextSoManyBytes() {
        for (int many = 0; many <= 75; many++) {
            int[] push = Check.join(Check.row(many), Check.times(many, 106));
            String element = many == 0 ? "-" : "6a".repeat(many);
            Check.leaves(element, push);
            Check.leaves(element + " 01", Check.join(push, Check.row(81)));
            if (many > 0) {
                Check.faults(1, 0, Arrays.copyOf(push, many));
                Check.faults(1, 0, many);
            }
        }
    }

    /** "76 those that the next byte .. tell". */
    private static void code76ReadsOneByte() {
        int[] amounts = {0, 1, 2, 75, 76, 119, 120};
        for (int many : amounts) {
            int[] push = Check.join(Check.row(76, many), Check.times(many, 106));
            String element = many == 0 ? "-" : "6a".repeat(many);
            Check.leaves(element, push);
            Check.leaves(element + " 01", Check.join(push, Check.row(81)));
            Check.faults(1, 0, Arrays.copyOf(push, push.length - 1));
        }
        Check.faults(1, 0, 76);
        Check.faults(1, 0, 76, 255);
        Check.faults(1, 0, Check.join(Check.row(76, 199), Check.times(198, 7)));
        Check.faults(1, 0, Check.join(Check.row(76, 255), Check.times(198, 7)));
        Check.faults(2, 0, Check.join(Check.row(76, 198), Check.times(198, 7)));
    }

    /** "77 those that the next two bytes (the lower one first) tell". */
    private static void code77ReadsTwoTheLowerFirst() {
        int[] amounts = {0, 1, 2, 75, 76, 119, 120};
        for (int many : amounts) {
            int[] push = Check.join(Check.row(77, many, 0), Check.times(many, 106));
            String element = many == 0 ? "-" : "6a".repeat(many);
            Check.leaves(element, push);
            Check.leaves(element + " 01", Check.join(push, Check.row(81)));
            Check.faults(1, 0, Arrays.copyOf(push, push.length - 1));
        }
        Check.faults(1, 0, 77);
        Check.faults(1, 0, 77, 0);
        // 0 and 1 are 256 bytes; the other way round they would be one.
        Check.faults(1, 0, 77, 0, 1, 9);
        Check.faults(1, 0, Check.join(Check.row(77, 0, 1), Check.times(197, 7)));
        Check.faults(1, 0, Check.join(Check.row(77, 1, 1), Check.times(197, 7)));
        Check.faults(1, 0, Check.join(Check.row(77, 255, 255), Check.times(197, 7)));
        Check.faults(1, 0, Check.join(Check.row(77, 198, 0), Check.times(197, 7)));
        Check.faults(2, 0, Check.join(Check.row(77, 197, 0), Check.times(197, 7)));
    }

    /** "79 pushes the number -1, 81 .. 96 push 1 .. 16": 78 and 80 beside them are no codes, 97 pushes nothing. */
    private static void smallNumbersAreMinus1And1To16() {
        Check.faults(4, 0, 78);
        Check.leaves("81", 79);
        Check.faults(4, 0, 80);
        Check.leaves("01", 81);
        Check.leaves("10", 96);
        Check.leaves("", 97);
        for (int number = 1; number <= 16; number++) {
            Check.leaves("01", Check.join(Check.row(80 + number), Check.pushOf(number), Check.row(135)));
        }
        Check.due("they are not counted", Check.ends(3, 79, 81, 96).count(0), 0);
    }

    private static void code97DoesNothing() {
        Check.due("but it is counted", Check.leaves("01 02", 81, 97, 82, 97, 97).count(0), 3);
        Check.faults(4, 0, 98);
    }

    /** "99 takes the top: if it is true what follows is done .. otherwise not; 100 the other way round". */
    private static void code99And100TakeTheTop() {
        for (int code = 99; code <= 100; code++) {
            Check.faults(5, 0, code, 104);
            Check.faults(5, 2, 81, 107, code, 104);
            Check.leaves("", 81, code, 104);
            Check.leaves("", 0, code, 104);
            Check.leaves("09", 89, 81, code, 104);
            Check.leaves("09", 89, 0, code, 104);
        }
        Check.leaves("02", 81, 99, 82, 104);
        Check.leaves("", 0, 99, 82, 104);
        Check.leaves("", 81, 100, 82, 104);
        Check.leaves("02", 0, 100, 82, 104);
        // "up to 103 or 104".
        Check.leaves("05", 0, 99, 82, 104, 85);
        Check.leaves("05", 0, 99, 82, 103, 85, 104);
        Check.leaves("02", 81, 99, 82, 103, 85, 104);
    }

    /** "103 turns that round (any number of times)". */
    private static void code103TurnsAnyNumberOfTimes() {
        for (int turns = 0; turns <= 98; turns++) {
            int[] all = Check.times(turns, 103);
            Check.leaves(turns % 2 == 0 ? "02" : "", Check.join(Check.row(81, 99), all, Check.row(82, 104)));
            Check.leaves(turns % 2 == 0 ? "" : "02", Check.join(Check.row(0, 99), all, Check.row(82, 104)));
            Check.leaves(turns % 2 == 0 ? "" : "02", Check.join(Check.row(81, 100), all, Check.row(82, 104)));
        }
        Check.faults(3, 102, Check.join(Check.row(81, 99), Check.times(99, 103), Check.row(82, 104)));
        Check.faults(10, 0, 103);
        Check.faults(10, 3, 81, 99, 104, 103);
    }

    /** "104 ends the latest 99 or 100." */
    private static void code104EndsTheLatest() {
        for (int deep = 1; deep <= 50; deep++) {
            Check.leaves("07", Check.join(Check.times(deep, 81, 99), Check.row(87), Check.times(deep, 104)));
            Check.leaves("07", Check.join(Check.times(deep, 0, 100), Check.row(87), Check.times(deep, 104)));
            Check.leaves("07", Check.join(Check.row(0), Check.times(deep, 99), Check.row(82), Check.times(deep, 104),
                Check.row(87)));
            int length = 3 * deep;
            Check.faults(12, length, Check.join(Check.times(deep, 81, 99), Check.times(deep - 1, 104), Check.row(87)));
            length = 1 + 2 * deep;
            Check.faults(12, length, Check.join(Check.row(0), Check.times(deep, 99), Check.times(deep - 1, 104),
                Check.row(255)));
        }
        for (int deep = 1; deep <= 49; deep++) {
            Check.faults(10, 3 * deep, Check.join(Check.times(deep, 81, 99), Check.times(deep + 1, 104)));
            Check.faults(10, 1 + 2 * deep, Check.join(Check.row(0), Check.times(deep, 99), Check.times(deep + 1, 104)));
        }
        Check.leaves("01 03", 0, 81, 99, 99, 82, 103, 81, 104, 83, 104);
        Check.leaves("02", 81, 99, 81, 99, 82, 104, 103, 83, 104);
    }

    /** "What is in a part that is not done is not done, but 99, 100, 103, 104 there are counted as pairs". */
    private static void partsNotDoneCountPairsAndTakeNothing() {
        for (int code = 78; code <= 255; code++) {
            if (code != 99 && code != 100 && code != 103 && code != 104) {
                Check.leaves("09", 89, 0, 99, code, 104);
                Check.leaves("09", 89, 81, 99, 103, code, 104);
                Check.leaves("09", 89, 81, 100, 81, 99, code, 103, code, 104, code, 104);
            }
        }
        for (int code = 99; code <= 100; code++) {
            Check.leaves("09 01", 89, 0, 99, code, 82, 104, 83, 104, 81);
            Check.leaves("09 01", 89, 0, 99, code, 82, 103, 83, 104, 103, 81, 104);
            Check.leaves("09", 89, 0, 99, code, 103, 103, 82, 104, 84, 104);
            // Without an element that could be taken.
            Check.leaves("", 0, 99, code, code, 103, 104, 104, 104);
        }
        // The part around decides, when its inner part is turned or ended.
        Check.leaves("", 0, 99, 0, 100, 82, 104, 82, 104);
        Check.leaves("04", 81, 99, 0, 99, 82, 104, 84, 104);
        Check.leaves("", 81, 99, 103, 81, 99, 82, 103, 83, 104, 104);
    }

    /** "105 takes the top, which must be true; 106 stops." */
    private static void code105NeedsATrueTop() {
        Check.faults(5, 0, 105);
        Check.faults(8, 1, 0, 105);
        Check.faults(8, 2, 81, 0, 105);
        Check.leaves("", 81, 105);
        Check.leaves("-", 0, 81, 105);
        Check.leaves("", 79, 105);
        Check.faults(9, 0, 106);
        Check.faults(9, 1, 81, 106, 81);
    }

    /** "107 takes the top to the side stack, 108 back from it." */
    private static void theSideStackGivesBackTheLatest() {
        Check.faults(5, 0, 107);
        Check.faults(5, 0, 108);
        Check.faults(5, 1, 81, 108);
        Check.faults(5, 2, 81, 107, 107);
        Check.faults(5, 3, 81, 107, 108, 108);
        Check.leaves("01", 81, 107, 108);
        Check.leaves("01 02 03 04", 81, 82, 83, 84, 107, 107, 107, 107, 108, 108, 108, 108);
        Check.leaves("- 01", 81, 107, 0, 108);
        Check.leaves("0102 -", 0, 107, 2, 1, 2, 108);
        Check.leaves("02", 81, 107, 82);
    }

    /** The elements that each move takes, as the document draws them, with nothing below and with one below. */
    private static void movesNeedExactlyTheirElements() {
        move(109, 2, "");
        move(110, 2, "01 02 01 02");
        move(111, 3, "01 02 03 01 02 03");
        move(112, 4, "01 02 03 04 01 02");
        move(113, 6, "03 04 05 06 01 02");
        move(114, 4, "03 04 01 02");
        move(115, 1, "01 01");
        move(117, 1, "");
        move(118, 1, "01 01");
        move(119, 2, "02");
        move(120, 2, "01 02 01");
        move(123, 3, "02 03 01");
        move(124, 2, "02 01");
        move(125, 2, "02 01 02");
        move(130, 1, "01 01");
    }

    private static void move(int code, int needed, String behind) {
        int[] all = {81, 82, 83, 84, 85, 86};
        int[] exact = Arrays.copyOf(all, needed);
        Check.leaves(behind, Check.join(exact, Check.row(code)));
        Check.leaves(("09 " + behind).trim(), Check.join(Check.row(89), exact, Check.row(code)));
        for (int had = 0; had < needed; had++) {
            Check.faults(5, had, Check.join(Arrays.copyOf(all, had), Check.row(code)));
            // What stands on the side stack is not there.
            int[] aside = Check.times(6, 81, 107);
            Check.faults(5, 12 + had, Check.join(aside, Arrays.copyOf(all, had), Check.row(code)));
        }
    }

    /** "An ELEMENT are 0 .. 120 bytes": one of 0 is copied and moved as any other. */
    private static void elementsWithoutBytesAreMovedAsOthers() {
        Check.leaves("- 01 - 01", 0, 81, 110);
        Check.leaves("01 - 01 -", 81, 0, 110);
        Check.leaves("- - - - - -", 0, 0, 0, 111);
        Check.leaves("- 01 02 03 - 01", 0, 81, 82, 83, 112);
        Check.leaves("02 03 04 - - 01", 0, 81, 82, 83, 84, 0, 113);
        Check.leaves("02 - - 01", 0, 81, 82, 0, 114);
        Check.leaves("-", 0, 115);
        Check.leaves("- -", 0, 118);
        Check.leaves("-", 81, 0, 119);
        Check.leaves("- 01 -", 0, 81, 120);
        Check.leaves("- 01 -", 0, 81, 81, 121);
        Check.leaves("01 -", 0, 81, 81, 122);
        Check.leaves("01 02 -", 0, 81, 82, 123);
        Check.leaves("01 -", 0, 81, 124);
        Check.leaves("- 01 -", 81, 0, 125);
        Check.leaves("01 -", 0, 107, 81, 108);
    }

    /** "116: pushes how many the stack has." */
    private static void code116CountsTheStackAlone() {
        for (int many = 0; many <= 59; many++) {
            ScriptDesk desk = Check.ends(many + 1, Check.join(Check.times(many, 81), Check.row(116)));
            Check.due("bytes of how many", desk.bytes(0), many == 0 ? 0 : 1);
            Check.due("how many", desk.byteOf(0, 0), many == 0 ? -1 : many);
        }
        Check.faults(11, 60, Check.join(Check.times(60, 81), Check.row(116)));
        Check.leaves("-", 81, 107, 116);
        Check.leaves("01 01", 81, 82, 107, 116);
    }

    /** "121 takes a number n, and pushes a copy of the element with n above it. 122 the same, but moves it." */
    private static void nOf121And122IsBelowHowManyThereAre() {
        for (int many = 1; many <= 59; many += many < 3 ? 1 : 56) {
            int[] below = new int[2 * many];
            for (int i = 0; i < many; i++) {
                below[2 * i] = 1;
                below[2 * i + 1] = 100 + i;
            }
            for (int n = 0; n < many; n++) {
                picked(below, n, 121, many + 1, 100 + many - 1 - n);
                picked(below, n, 122, many, 100 + many - 1 - n);
            }
            long[] wrong = {-1, -2, many, many + 1, 127, 128, 255, 256, 2147483647L, -2147483647L};
            for (long n : wrong) {
                int[] push = Check.pushOf(n);
                Check.faults(7, below.length + push.length, Check.join(below, push, Check.row(121)));
                Check.faults(7, below.length + push.length, Check.join(below, push, Check.row(122)));
            }
        }
        for (int code = 121; code <= 122; code++) {
            Check.faults(5, 0, code);
            Check.faults(7, 1, 0, code);
            Check.faults(7, 1, 79, code);
            // The side stack's elements are not among how many there are.
            Check.faults(7, 5, 81, 82, 107, 81, 97, code);
            // A number below 0 whose size is 0 is 0, and a long form of 1 is 1.
            Check.ends(code == 121 ? 2 : 1, 81, 1, 128, code);
            Check.ends(code == 121 ? 3 : 2, 81, 82, 3, 1, 0, 0, code);
        }
    }

    private static void picked(int[] below, int n, int code, int size, int octet) {
        ScriptDesk desk = Check.ends(size, Check.join(below, Check.pushOf(n), Check.row(code)));
        String name = code + " with " + n;
        Check.due(name, desk.byteOf(0, 0), octet);
        int many = below.length / 2;
        boolean moved = code == 122;
        for (int k = 1; k < size; k++) {
            // The order of the others stays.
            int from = moved && k <= n ? k - 1 : moved ? k : k - 1;
            Check.due(name + " at " + k, desk.byteOf(k, 0), 100 + many - 1 - from);
        }
    }

    /** "130 x: x and how many bytes it has." */
    private static void code130CountsBytes() {
        Check.leaves("- -", 0, 130);
        for (int many = 1; many <= 120; many++) {
            ScriptDesk desk = Check.ends(2, Check.join(Check.sevens(many), Check.row(130)));
            Check.due("130 of " + many, desk.byteOf(0, 0), many);
            Check.due("in one byte", desk.bytes(0), 1);
            Check.due("x stays", desk.bytes(1), many);
        }
    }

    /** "135 x1 x2: the number 1 if they are the same bytes, else 0; 136 the same, and 105 behind it." */
    private static void code135ComparesBytes() {
        int[] lengths = {1, 2, 75, 95};
        for (int many : lengths) {
            int[] one = Check.sevens(many);
            same(true, one, one.clone());
            for (int at = 2; at < one.length; at += Math.max(1, many - 1)) {
                int[] other = one.clone();
                other[at] = 8;
                same(false, one, other);
                same(false, other, one);
            }
            same(false, one, Check.sevens(many - 1));
            same(false, Check.sevens(many - 1), one);
        }
        same(true, Check.row(0), Check.row(0));
        same(false, Check.row(0), Check.row(1, 0));
        same(false, Check.row(1, 0), Check.row(1, 128));
        same(false, Check.row(2, 1, 0), Check.row(1, 1));
        Check.leaves("01", Check.join(Check.sevens(120), Check.row(118, 135)));
        Check.leaves("", Check.join(Check.sevens(120), Check.row(118, 136)));
        for (int code = 135; code <= 136; code++) {
            Check.faults(5, 0, code);
            Check.faults(5, 1, 81, code);
        }
        Check.leaves("09 01", 89, 81, 81, 135);
        Check.leaves("09", 89, 81, 81, 136);
    }

    private static void same(boolean want, int[] one, int[] other) {
        Check.leaves(want ? "01" : "-", Check.join(one, other, Check.row(135)));
        if (want) {
            Check.leaves("", Check.join(one, other, Check.row(136)));
        } else {
            Check.faults(8, one.length + other.length, Check.join(one, other, Check.row(136)));
        }
    }
}
