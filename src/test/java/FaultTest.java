/** Every fault, its place, and which of several is the first (promises 4 and 5). */
public final class FaultTest {
    private static final int[] FIVE_BYTES = {5, 1, 0, 0, 0, 0};

    public static void main(String[] args) {
        cutPushes();
        longPushes();
        tooManyOperations();
        noSuchCode();
        tooFewElements();
        longNumbers();
        wrongN();
        notTrue();
        stoppedAndUnpaired();
        tooManyElements();
        unended();
        Check.end("FaultTest");
    }

    private static void cutPushes() {
        for (int code = 1; code <= 77; code++) {
            Check.faults(1, 1, 81, code);
        }
        Check.faults(1, 0, 2, 5);
        Check.faults(1, 0, 76, 2, 7);
        Check.faults(1, 0, 77, 0);
        Check.faults(1, 0, 77, 1, 0);
        Check.faults(1, 0, 77, 0, 1);
        Check.faults(1, 0, 77, 255, 255);
        // A push that is both cut and too long is cut first.
        Check.faults(1, 0, 76, 121);
        Check.faults(1, 0, Check.join(Check.row(76, 121), Check.times(120, 7)));
        // It is a fault in a part not done, too.
        Check.faults(1, 2, 0, 99, 5, 104);
        Check.faults(1, 2, 0, 99, 76);
    }

    private static void longPushes() {
        Check.faults(2, 0, Check.sevens(121));
        Check.faults(2, 0, Check.sevens(198));
        Check.faults(2, 0, Check.join(Check.row(77, 121, 0), Check.times(121, 7)));
        Check.faults(2, 2, Check.join(Check.row(0, 99), Check.sevens(121), Check.row(104)));
        Check.leaves("", Check.join(Check.row(0, 99), Check.sevens(120), Check.row(104)));
    }

    private static void tooManyOperations() {
        Check.leaves("", Check.times(100, 97));
        Check.faults(3, 100, Check.times(101, 97));
        Check.faults(3, 199, Check.join(Check.times(99, 81, 117), Check.row(97, 97)));
        // The 101st comes before whatever else is wrong with it.
        Check.faults(3, 100, Check.join(Check.times(100, 97), Check.row(255)));
        Check.faults(3, 100, Check.join(Check.times(100, 97), Check.row(106)));
        Check.faults(3, 100, Check.join(Check.times(100, 97), Check.row(104)));
        Check.faults(3, 100, Check.join(Check.times(100, 97), Check.row(117)));
        Check.faults(3, 101, Check.join(Check.row(0, 99), Check.times(99, 255), Check.row(104)));
        // Codes up to 96 do not count.
        Check.leaves("", Check.times(50, 81, 97, 117));
        // Each key of 174 is one more, where 174 is done.
        int[] keys = {0, 0, 81, 81, 82, 174};
        Check.leaves("01", Check.join(Check.times(97, 97), keys));
        Check.faults(3, 103, Check.join(Check.times(98, 97), keys));
        Check.faults(3, 103, Check.join(Check.times(98, 97), Check.row(0, 0, 81, 81, 82, 175)));
        Check.leaves("", Check.join(Check.row(0, 99), Check.times(97, 97), Check.row(174, 104)));
        // n comes before the count, the count before the keys.
        Check.faults(7, 100, Check.join(Check.times(99, 97), Check.row(89, 174)));
        Check.faults(7, 100, Check.join(Check.times(99, 97), Check.row(79, 174)));
        Check.faults(5, 99, Check.join(Check.times(99, 97), Check.row(174)));
        Check.faults(6, 105, Check.join(Check.times(99, 97), FIVE_BYTES, Check.row(174)));
        Check.faults(3, 100, Check.join(Check.times(99, 97), Check.row(88, 174)));
        Check.faults(5, 97, Check.join(Check.times(96, 97), Check.row(83, 174)));
    }

    private static void noSuchCode() {
        int[] codes = {78, 80, 98, 101, 102, 126, 127, 128, 129, 131, 132, 133, 134, 137, 138, 141, 142, 149, 150, 151,
            152, 153, 167, 171};
        for (int code : codes) {
            missing(code);
        }
        for (int code = 176; code <= 255; code++) {
            missing(code);
        }
        everyOtherCodeIs(codes);
    }

    private static void missing(int code) {
        ScriptDesk desk = Check.faults(4, 3, 81, 81, 81, code);
        Check.due("count of " + code, desk.count(0), code > 96 ? 1 : 0);
        Check.faults(4, 0, code);
        Check.leaves("", 0, 99, code, 104);
    }

    private static void everyOtherCodeIs(int[] missing) {
        for (int code = 0; code < 176; code++) {
            boolean known = true;
            for (int other : missing) {
                known &= other != code;
            }
            ScriptDesk desk = new ScriptDesk();
            int answer = Check.runOf(desk, code);
            Check.due("code " + code + " is known", answer != -5, known);
        }
    }

    private static void tooFewElements() {
        int[][] needs = {
            {99, 1}, {100, 1}, {105, 1}, {107, 1}, {109, 2}, {110, 2}, {111, 3}, {112, 4}, {113, 6}, {114, 4}, {115, 1},
            {117, 1}, {118, 1}, {119, 2}, {120, 2}, {121, 1}, {122, 1}, {123, 3}, {124, 2}, {125, 2}, {130, 1}, {135, 2},
            {136, 2}, {139, 1}, {140, 1}, {143, 1}, {144, 1}, {145, 1}, {146, 1}, {147, 2}, {148, 2}, {154, 2}, {155, 2},
            {156, 2}, {157, 2}, {158, 2}, {159, 2}, {160, 2}, {161, 2}, {162, 2}, {163, 2}, {164, 2}, {165, 3}, {166, 1},
            {168, 1}, {169, 1}, {170, 1}, {172, 2}, {173, 2}, {174, 1}, {175, 1}};
        for (int[] need : needs) {
            for (int had = 0; had < need[1]; had++) {
                Check.faults(5, had, Check.join(Check.times(had, 83), Check.row(need[0])));
            }
            ScriptDesk desk = new ScriptDesk();
            int answer = Check.runOf(desk, Check.join(Check.times(need[1], 83), Check.row(need[0])));
            Check.due("enough for " + need[0], answer != -6 || need[0] >= 174, true);
        }
        Check.faults(5, 1, 81, 108);
        Check.faults(5, 3, 81, 107, 108, 108);
        // What stands on the side is not on the stack.
        Check.faults(5, 2, 81, 107, 117);
        // 174: the n keys, m, the m signatures, x.
        Check.faults(5, 2, 81, 82, 174);
        Check.faults(5, 3, 81, 81, 82, 174);
        Check.faults(5, 3, 81, 81, 81, 174);
        Check.faults(5, 4, 81, 81, 81, 81, 174);
        Check.faults(5, 2, 0, 0, 174);
        Check.faults(5, 2, 0, 0, 175);
    }

    private static void longNumbers() {
        int[] ofOne = {139, 140, 143, 144, 145, 146, 121, 122, 174, 175};
        for (int code : ofOne) {
            Check.faults(6, 7, Check.join(Check.row(81), FIVE_BYTES, Check.row(code)));
            // The top is looked at first, whatever is missing below it.
            Check.faults(6, 6, Check.join(FIVE_BYTES, Check.row(code)));
        }
        int[] ofTwo = {147, 148, 154, 155, 156, 157, 158, 159, 160, 161, 162, 163, 164, 165};
        for (int code : ofTwo) {
            Check.faults(6, 8, Check.join(Check.row(81, 81), FIVE_BYTES, Check.row(code)));
            Check.faults(6, 8, Check.join(Check.row(81), FIVE_BYTES, Check.row(81), Check.row(code)));
            Check.faults(6, 6, Check.join(FIVE_BYTES, Check.row(code)));
        }
        Check.faults(6, 8, Check.join(FIVE_BYTES, Check.row(81, 81, 165)));
        Check.faults(6, 7, Check.join(FIVE_BYTES, Check.row(81, 165)));
        Check.faults(6, 8, Check.join(FIVE_BYTES, Check.row(81, 81, 174)));
        Check.faults(6, 8, Check.join(FIVE_BYTES, Check.row(81, 81, 175)));
        Check.leaves("0000008000 01", 4, 255, 255, 255, 127, 139, 118, 118, 135);
    }

    private static void wrongN() {
        for (int code = 121; code <= 122; code++) {
            Check.faults(7, 1, 0, code);
            Check.faults(7, 1, 81, code);
            Check.faults(7, 2, 81, 81, code);
            Check.faults(7, 2, 81, 79, code);
            Check.faults(7, 3, 81, 81, 82, code);
            Check.faults(7, 6, 81, 4, 255, 255, 255, 127, code);
            Check.faults(7, 6, 81, 4, 255, 255, 255, 255, code);
        }
        for (int code = 174; code <= 175; code++) {
            Check.faults(7, 1, 79, code);
            Check.faults(7, 1, 89, code);
            Check.faults(7, 5, 4, 255, 255, 255, 127, code);
            Check.faults(7, 2, 79, 0, code);
            Check.faults(7, 2, 81, 0, code);
            Check.faults(7, 3, 82, 81, 81, code);
            Check.faults(7, 3, 79, 81, 81, code);
            Check.faults(7, 9, Check.join(Check.row(88), Check.times(7, 81), Check.row(87, code)));
        }
        Check.leaves("01", 0, 0, 81, 81, 81, 81, 81, 81, 81, 81, 88, 174);
    }

    private static void notTrue() {
        Check.faults(8, 1, 0, 105);
        Check.faults(8, 2, 1, 0, 105);
        Check.faults(8, 2, 1, 128, 105);
        Check.faults(8, 2, 81, 82, 136);
        Check.faults(8, 2, 0, 81, 136);
        Check.faults(8, 2, 81, 82, 157);
        Check.faults(8, 2, 81, 81, 173);
        Check.faults(8, 2, 0, 81, 173);
        ScriptDesk desk = Check.faults(8, 5, 0, 81, 81, 81, 81, 175);
        Check.due("it was asked", desk.count(1), 1);
    }

    private static void stoppedAndUnpaired() {
        Check.faults(9, 0, 106);
        Check.faults(9, 3, 81, 81, 99, 106, 104);
        Check.faults(10, 0, 103);
        Check.faults(10, 0, 104);
        Check.faults(10, 3, 81, 99, 104, 104);
        Check.faults(10, 3, 81, 99, 104, 103);
        Check.faults(10, 5, 0, 99, 99, 104, 104, 104);
    }

    private static void tooManyElements() {
        Check.due("60", Check.runOf(new ScriptDesk(), Check.times(60, 81)), 1);
        Check.faults(11, 60, Check.times(61, 81));
        Check.faults(11, 60, Check.join(Check.times(60, 81), Check.row(0)));
        Check.faults(11, 60, Check.join(Check.times(60, 81), Check.row(1, 5)));
        Check.faults(11, 60, Check.join(Check.times(60, 81), Check.row(118)));
        Check.faults(11, 60, Check.join(Check.times(60, 81), Check.row(116)));
        Check.faults(11, 60, Check.join(Check.times(60, 81), Check.row(111)));
        Check.faults(11, 58, Check.join(Check.times(58, 81), Check.row(111)));
        Check.faults(11, 59, Check.join(Check.times(59, 81), Check.row(110)));
        Check.faults(11, 59, Check.join(Check.times(59, 81), Check.row(112)));
        Check.faults(11, 60, Check.join(Check.times(60, 81), Check.row(125)));
        Check.faults(11, 60, Check.join(Check.times(60, 81), Check.row(130)));
        // The side stack counts too, and room it gave back may be used again.
        Check.faults(11, 90, Check.join(Check.times(30, 81, 107), Check.times(31, 81)));
        Check.due("30 and 30", Check.runOf(new ScriptDesk(), Check.join(Check.times(30, 81, 107), Check.times(30, 81))), 1);
        Check.due("60 aside", Check.runOf(new ScriptDesk(), Check.times(60, 81, 107)), 1);
        Check.faults(11, 120, Check.join(Check.times(60, 81, 107), Check.row(81)));
        Check.due("50 aside and back", Check.runOf(new ScriptDesk(),
            Check.join(Check.times(60, 81), Check.times(50, 107), Check.times(50, 108))), 1);
        Check.due("57 and three", Check.runOf(new ScriptDesk(), Check.join(Check.times(57, 81), Check.row(111))), 1);
        // Neither an operation that takes as much as it gives nor one not done is one too many.
        Check.due("121 at 60", Check.runOf(new ScriptDesk(), Check.join(Check.times(60, 81), Check.row(121))), 1);
        Check.due("not done", Check.runOf(new ScriptDesk(),
            Check.join(Check.times(59, 81), Check.row(0, 99, 81, 81, 118, 104))), 1);
    }

    private static void unended() {
        Check.faults(12, 2, 81, 99);
        Check.faults(12, 2, 0, 99);
        Check.faults(12, 2, 0, 100);
        Check.faults(12, 3, 81, 99, 103);
        Check.faults(12, 5, 81, 81, 99, 99, 104);
        Check.faults(12, 5, 0, 99, 99, 104, 81);
    }
}
