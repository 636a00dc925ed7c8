import java.util.Arrays;

/** The document's FAULTS and their order: a method for each sentence, at and behind the bound. */
public final class FaultsEdgeTest {
    private static final int[] LONG = {5, 1, 0, 0, 0, 0};
    private static final int[] MISSING = {78, 80, 98, 101, 102, 126, 127, 128, 129, 131, 132, 133, 134, 137, 138, 141, 142,
        149, 150, 151, 152, 153, 167, 171};

    public static void main(String[] args) {
        codesAbove96AreCounted();
        upTo100OperationsAreCounted();
        keysAreCountedAllAtOnce();
        keysAreCountedWhereTheyAreDoneAlone();
        noSuchCodeInWhatIsDone();
        whatMustBeTrue();
        pairsWithoutTheirBeginning();
        pairsWithoutTheirEnd();
        cutComesBeforeLong();
        tooManyOperationsComeFirst();
        theFirstOperationWithAFaultCounts();
        pushesNotDoneAreReadToo();
        operandsAreLookedAtOneByOne();
        threeOperandsOneByOne();
        nOf121OneByOne();
        operandsOf174OneByOne();
        Check.end("FaultsEdgeTest");
    }

    /** "operations with codes above 96 (also ones that are not done". */
    private static void codesAbove96AreCounted() {
        for (int code = 78; code <= 255; code++) {
            boolean flow = code == 99 || code == 100 || code == 103 || code == 104;
            if (!flow) {
                ScriptDesk desk = Check.leaves("", 0, 99, code, 104);
                Check.due("count of " + code, desk.count(0), code > 96 ? 3 : 2);
            }
        }
        Check.due("99 and 104 not done", Check.leaves("", 0, 99, 99, 103, 104, 100, 104, 104).count(0), 7);
        Check.due("pushes not done", Check.leaves("", 0, 99, 3, 97, 97, 97, 76, 1, 97, 77, 1, 0, 97, 104).count(0), 2);
        Check.due("a code that is none is counted", Check.faults(4, 0, 255).count(0), 1);
        Check.due("and one below 97 is not", Check.faults(4, 0, 80).count(0), 0);
        Check.due("bytes pushed are no operations", Check.leaves("6161", 2, 97, 97).count(0), 0);
    }

    /** "3 there are more than 100 operations". */
    private static void upTo100OperationsAreCounted() {
        Check.due("100", Check.leaves("", Check.times(100, 97)).count(0), 100);
        Check.due("101", Check.faults(3, 100, Check.times(101, 97)).count(0), 101);
        Check.due("no more is counted", Check.faults(3, 100, Check.times(200, 97)).count(0), 101);
        int[] notDone = Check.join(Check.row(0, 99), Check.times(98, 97));
        Check.due("100 not done", Check.leaves("", Check.join(notDone, Check.row(104))).count(0), 100);
        Check.faults(3, 101, Check.join(notDone, Check.row(97, 104)));
        Check.faults(3, 101, Check.join(notDone, Check.row(255, 104)));
        Check.faults(12, 101, Check.join(notDone, Check.row(81)));
        Check.leaves("01 02", Check.join(Check.times(100, 97), Check.row(81, 82)));
        Check.leaves("10 - 81", Check.join(Check.times(100, 97), Check.row(96, 0, 79)));
        // The next run begins at 0.
        ScriptDesk desk = Check.leaves("", Check.times(100, 97));
        Check.due("100 more", Check.runOf(desk, Check.times(100, 97)), 1);
        Check.due("counted anew", desk.count(0), 100);
        Check.due("after a fault too", Check.runOf(desk, Check.times(101, 97)), -4);
        Check.due("100 again", Check.runOf(desk, Check.times(100, 97)), 1);
    }

    /** "each of the n keys is one more, all at once, when n has been read and is as said". */
    private static void keysAreCountedAllAtOnce() {
        for (int code = 174; code <= 175; code++) {
            for (int n = 0; n <= 8; n++) {
                int[] many = Check.join(Check.row(0, 0), Check.times(n, 81), Check.pushOf(n), Check.row(code));
                int[] most = Check.join(Check.times(99 - n, 97), many);
                Check.due("100 with keys", Check.ends(175 - code, most).count(0), 100);
                for (int over = 1; over <= n; over++) {
                    int[] more = Check.join(Check.times(99 - n + over, 97), many);
                    Check.due("above 100 with keys", Check.faults(3, more.length - 1, more).count(0), 100 + over);
                }
            }
            // When n has been read: the keys need not be there, but n must, and be as said.
            Check.due("no n", Check.faults(5, 99, Check.join(Check.times(99, 97), Check.row(code))).count(0), 100);
            Check.due("long n", Check.faults(6, 105, Check.join(Check.times(99, 97), LONG, Check.row(code))).count(0), 100);
            Check.due("n 9", Check.faults(7, 100, Check.join(Check.times(99, 97), Check.row(89, code))).count(0), 100);
            Check.due("n -1", Check.faults(7, 100, Check.join(Check.times(99, 97), Check.row(79, code))).count(0), 100);
            Check.due("n 8", Check.faults(3, 100, Check.join(Check.times(99, 97), Check.row(88, code))).count(0), 108);
            Check.due("n 1", Check.faults(3, 100, Check.join(Check.times(99, 97), Check.row(81, code))).count(0), 101);
            Check.due("n 1", Check.faults(5, 99, Check.join(Check.times(98, 97), Check.row(81, code))).count(0), 100);
            Check.due("n 0", Check.faults(5, 100, Check.join(Check.times(99, 97), Check.row(0, code))).count(0), 100);
        }
    }

    /** "for 174 and 175, where they are done". */
    private static void keysAreCountedWhereTheyAreDoneAlone() {
        for (int code = 174; code <= 175; code++) {
            ScriptDesk desk = Check.leaves("08", Check.row(88, 0, 99, code, 104));
            Check.due("not done", desk.count(0), 3);
            int[] full = Check.join(Check.row(0, 99), Check.times(97, 97), Check.row(code, 104));
            Check.due("100 with one not done", Check.leaves("", full).count(0), 100);
            // A key counts for each operation that asks it.
            int[] twice = {0, 0, 81, 81, 174, 117, 0, 0, 81, 81, 174};
            Check.due("twice", Check.leaves("01", twice).count(0), 5);
        }
    }

    /** "4 in what is done: no such code". */
    private static void noSuchCodeInWhatIsDone() {
        for (int code = 78; code <= 255; code++) {
            final int wanted = code;
            boolean missing = code > 175 || Arrays.stream(MISSING).anyMatch(other -> other == wanted);
            // Three elements are on the stack, so that most operations find theirs.
            ScriptDesk desk = new ScriptDesk();
            int answer = Check.runOf(desk, 81, 81, 81, code);
            Check.due("no such code " + code, answer == -5, missing);
            if (missing) {
                Check.faults(4, 0, code);
                Check.faults(4, 2, 81, 99, code, 104);
                Check.faults(4, 3, 0, 99, 103, code, 104);
                Check.leaves("", 0, 99, code, 104);
                Check.leaves("", 81, 99, 103, code, 104);
                Check.leaves("", 81, 100, code, 104);
            }
        }
    }

    /** "8 what must be true (105, 136, 157, 173, 175) is not". */
    private static void whatMustBeTrue() {
        int[][] notTrue = {{0, 105}, {81, 82, 136}, {81, 82, 157}, {81, 81, 173}, {0, 81, 81, 81, 81, 175}};
        int[][] areTrue = {{81, 105}, {82, 82, 136}, {82, 82, 157}, {83, 81, 173}, {0, 83, 81, 81, 81, 175}};
        for (int i = 0; i < notTrue.length; i++) {
            Check.faults(8, notTrue[i].length - 1, notTrue[i]);
            Check.faults(8, notTrue[i].length, Check.join(Check.row(81), notTrue[i]));
            Check.leaves("", areTrue[i]);
            Check.leaves("01", Check.join(Check.row(81), areTrue[i]));
        }
        // The same without 105 behind it leaves the 0.
        Check.leaves("-", 81, 82, 135);
        Check.leaves("-", 81, 82, 156);
        Check.leaves("-", 81, 81, 172);
        Check.leaves("-", 0, 81, 81, 81, 81, 174);
    }

    /** "10 103 or 104 without 99 or 100". */
    private static void pairsWithoutTheirBeginning() {
        for (int code = 103; code <= 104; code++) {
            Check.faults(10, 0, code);
            Check.faults(10, 1, 81, code);
            for (int begin = 99; begin <= 100; begin++) {
                for (int top = 0; top <= 81; top += 81) {
                    Check.faults(10, 3, top, begin, 104, code);
                    Check.faults(10, 4, top, begin, 103, 104, code);
                    Check.leaves("", top, begin, 103, 104);
                }
            }
            Check.faults(10, 5, 0, 99, 99, 104, 104, code);
        }
    }

    /** "12 at the end: a 99 or 100 without its 104." */
    private static void pairsWithoutTheirEnd() {
        for (int begin = 99; begin <= 100; begin++) {
            for (int top = 0; top <= 81; top += 81) {
                Check.faults(12, 2, top, begin);
                Check.faults(12, 3, top, begin, 103);
                Check.faults(12, 4, top, begin, 103, 103);
                Check.faults(12, 6, top, begin, top, begin, 104, 97);
                Check.leaves("", top, begin, 104);
            }
            Check.faults(12, 5, 0, 99, begin, 104, 97);
            Check.faults(12, 5, 0, 99, begin, begin, 104);
        }
        // A push that looks like a 104 is none; a fault before the end comes first.
        Check.faults(12, 4, 81, 99, 1, 104);
        Check.faults(1, 2, 81, 99, 2, 104);
        Check.faults(12, 62, Check.join(Check.row(81, 99), Check.times(60, 81)));
    }

    /** "the first of these that is so": 1 and 2 at one push. */
    private static void cutComesBeforeLong() {
        for (int told = 119; told <= 124; told++) {
            for (int there = 118; there <= 125; there++) {
                int[] by76 = Check.join(Check.row(76, told), Check.times(there, 97));
                int[] by77 = Check.join(Check.row(77, told, 0), Check.times(there, 97));
                if (told > there) {
                    Check.faults(1, 0, by76);
                    Check.faults(1, 0, by77);
                } else if (told > 120) {
                    Check.faults(2, 0, by76);
                    Check.faults(2, 0, by77);
                } else {
                    Check.due("what is behind", Check.ends(1, by76).count(0), there - told);
                    Check.due("what is behind", Check.ends(1, by77).count(0), there - told);
                }
            }
        }
    }

    /** "the first of these that is so": 3 before all that else may be wrong with an operation that is counted. */
    private static void tooManyOperationsComeFirst() {
        int[][] others = {{255}, {98}, {117}, {99}, {108}, {105}, {106}, {103}, {104}, {121}, {172}, {174}, {147}};
        for (int[] other : others) {
            Check.faults(3, 100, Check.join(Check.times(100, 97), other));
        }
        Check.faults(3, 101, Check.join(Check.times(100, 97), Check.row(0, 105)));
        Check.faults(3, 106, Check.join(Check.times(100, 97), LONG, Check.row(139)));
        Check.faults(3, 102, Check.join(Check.times(100, 97), Check.row(81, 79, 121)));
        Check.faults(3, 101, Check.join(Check.times(100, 97), Check.row(89, 174)));
        Check.faults(3, 160, Check.join(Check.times(100, 97), Check.times(60, 81), Check.row(118)));
        Check.faults(11, 160, Check.join(Check.times(100, 97), Check.times(60, 81), Check.row(81, 118)));
        Check.faults(4, 100, Check.join(Check.times(100, 97), Check.row(80)));
        Check.faults(1, 100, Check.join(Check.times(100, 97), Check.row(1)));
    }

    /** "at the first operation where one is": of two faulty operations the first one counts, whatever their numbers. */
    private static void theFirstOperationWithAFaultCounts() {
        int[][] faulty = {Check.sevens(121), Check.times(101, 97), {255}, {117}, {5, 1, 0, 0, 0, 0, 139}, {79, 121},
            {0, 105}, {106}, {104}, Check.times(61, 81)};
        int[] places = {0, 100, 0, 0, 6, 1, 1, 0, 0, 60};
        for (int i = 0; i < faulty.length; i++) {
            for (int[] next : faulty) {
                int[] both = Check.join(faulty[i], next, Check.row(75));
                Check.faults(2 + i, places[i], both.length > 200 ? Arrays.copyOf(both, 200) : both);
            }
            // Here the script also ends within a push, and below within a part.
            Check.faults(2 + i, places[i], Check.join(faulty[i], Check.row(2, 1)));
        }
        Check.faults(2, 2, Check.join(Check.row(81, 99), Check.sevens(121)));
        Check.faults(3, 101, Check.join(Check.row(81, 99), Check.times(100, 97)));
        Check.faults(4, 2, 81, 99, 255);
        Check.faults(5, 2, 81, 99, 117);
        Check.faults(6, 8, Check.join(Check.row(81, 99), LONG, Check.row(139)));
        Check.faults(7, 3, 81, 99, 79, 121);
        Check.faults(8, 3, 81, 99, 0, 105);
        Check.faults(9, 2, 81, 99, 106);
        Check.faults(10, 3, 81, 99, 104, 104, 81, 99);
        Check.faults(11, 62, Check.join(Check.row(81, 99), Check.times(61, 81)));
    }

    /** "4 in what is done": 1 and 2 hold in what is not done as well, and so do the pairs. */
    private static void pushesNotDoneAreReadToo() {
        Check.faults(1, 2, 0, 99, 1);
        Check.faults(1, 2, 0, 99, 2, 104);
        Check.faults(1, 2, 0, 99, 76);
        Check.faults(1, 2, 0, 99, 76, 1);
        Check.faults(1, 2, 0, 99, 77, 1);
        Check.faults(1, 2, 0, 99, 77, 1, 0);
        Check.faults(2, 2, Check.join(Check.row(0, 99), Check.sevens(121), Check.row(104)));
        Check.faults(2, 2, Check.join(Check.row(81, 100), Check.row(77, 121, 0), Check.times(121, 104), Check.row(104)));
        Check.leaves("", Check.join(Check.row(0, 99), Check.sevens(120), Check.row(104)));
        // The bytes of a push not done are no operations.
        Check.leaves("", 0, 99, 2, 104, 104, 76, 2, 104, 104, 77, 2, 0, 104, 104, 104);
        Check.faults(12, 5, 0, 99, 2, 104, 104);
    }

    /** "An operation looks at its operands from the top on, one by one: whether it is there, then whether it is as it must be." */
    private static void operandsAreLookedAtOneByOne() {
        int[] ofTwo = {147, 148, 154, 155, 156, 157, 158, 159, 160, 161, 162, 163, 164};
        for (int code : ofTwo) {
            Check.faults(5, 0, code);
            Check.faults(5, 1, 81, code);
            Check.faults(6, 6, Check.join(LONG, Check.row(code)));
            Check.faults(6, 7, Check.join(LONG, Check.row(81, code)));
            Check.faults(6, 7, Check.join(Check.row(81), LONG, Check.row(code)));
            Check.faults(6, 12, Check.join(LONG, LONG, Check.row(code)));
        }
        int[] ofOne = {139, 140, 143, 144, 145, 146};
        for (int code : ofOne) {
            Check.faults(5, 0, code);
            Check.faults(6, 6, Check.join(LONG, Check.row(code)));
            // What is below its operand is nothing to it.
            Check.ends(2, Check.join(LONG, Check.row(81, code)));
        }
    }

    private static void threeOperandsOneByOne() {
        int[][] kinds = {{81}, LONG};
        for (int had = 0; had <= 3; had++) {
            for (int mask = 0; mask < 1 << had; mask++) {
                int[] codes = new int[0];
                for (int k = had - 1; k >= 0; k--) {
                    codes = Check.join(codes, kinds[mask >> k & 1]);
                }
                if (mask != 0) {
                    Check.faults(6, codes.length, Check.join(codes, Check.row(165)));
                } else if (had < 3) {
                    Check.faults(5, codes.length, Check.join(codes, Check.row(165)));
                } else {
                    Check.leaves("-", Check.join(codes, Check.row(165)));
                }
            }
        }
    }

    private static void nOf121OneByOne() {
        for (int code = 121; code <= 122; code++) {
            Check.faults(5, 0, code);
            Check.faults(6, 6, Check.join(LONG, Check.row(code)));
            Check.faults(6, 7, Check.join(Check.row(81), LONG, Check.row(code)));
            Check.faults(7, 5, 4, 1, 0, 0, 0, code);
            Check.faults(7, 2, 81, 81, code);
            Check.ends(code == 121 ? 2 : 1, Check.join(LONG, Check.row(0, code)));
        }
    }

    /** "(174: n, the n keys, m, the m signatures, x.)" */
    private static void operandsOf174OneByOne() {
        for (int code = 174; code <= 175; code++) {
            Check.faults(5, 0, code);
            // n is long or not as said, whatever is below it.
            Check.faults(6, 6, Check.join(LONG, Check.row(code)));
            Check.faults(6, 12, Check.join(LONG, LONG, Check.row(code)));
            Check.faults(7, 1, 79, code);
            Check.faults(7, 7, Check.join(LONG, Check.row(89, code)));
            // A key that is not there comes before m; a key may be long.
            Check.faults(5, 1, 81, code);
            Check.faults(5, 7, Check.join(LONG, Check.row(81, code)));
            Check.faults(5, 2, 89, 82, code);
            // m is not there, is long, is not as said, whatever is below it.
            Check.faults(5, 2, 81, 81, code);
            Check.faults(6, 8, Check.join(LONG, Check.row(81, 81, code)));
            Check.faults(6, 14, Check.join(LONG, LONG, Check.row(81, 81, code)));
            Check.faults(7, 3, 82, 81, 81, code);
            Check.faults(7, 3, 79, 81, 81, code);
            Check.faults(7, 9, Check.join(LONG, Check.row(82, 81, 81, code)));
            Check.faults(6, 7, Check.join(LONG, Check.row(0, code)));
            Check.faults(7, 2, 81, 0, code);
            // A signature, then x, is not there; both may be long.
            Check.faults(5, 3, 81, 81, 81, code);
            Check.faults(5, 9, Check.join(LONG, Check.row(81, 81, 81, code)));
            Check.faults(5, 2, 0, 0, code);
            // What is below x is nothing to it.
            Check.ends(1 + 175 - code, Check.join(LONG, LONG, Check.row(83, 81, 81, 81, code)));
        }
    }
}
