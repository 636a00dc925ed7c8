import java.util.Arrays;

/** The bounds of promises 1 to 11, and that a refused call changes nothing: a method for each sentence. */
public final class PromisesEdgeTest {
    private static final int[] FAR = {Integer.MIN_VALUE, Integer.MIN_VALUE + 1, -65536, -256, -121, -61, -2, -1};

    /** Brings a new object into a state in which calls may be refused. */
    private interface State {
        void make(ScriptDesk desk);
    }

    /** A call that is refused, with the check of its answer. */
    private interface Refused {
        void call(ScriptDesk desk);
    }

    public static void main(String[] args) {
        aNewObjectHasNothing();
        objectsAreApart();
        putTakesTheLowestBytes();
        putTakesOneToEightBytes();
        refusedCallsChangeNothing();
        askingChangesNothing();
        aSecretStays();
        aRunTakesTheScript();
        aRunBeginsWithAnEmptySideStack();
        aFaultEmptiesTheStack();
        noPartGoesOnIntoTheNextRun();
        placeIsOfTheLastRun();
        placeOfEveryPush();
        clearTellsHowManyThereWere();
        isTrueIsOfTheTop();
        bytesNeedAnElement();
        byteOfNeedsAByte();
        countIsOfTheLastRun();
        anObjectAnswers512Calls();
        Check.end("PromisesEdgeTest");
    }

    /** "No elements, no script. The secret is 0." */
    private static void aNewObjectHasNothing() {
        ScriptDesk desk = new ScriptDesk();
        Check.due("a new object", Check.stateOf(desk), "0 [] false place -1 counts 0 0");
        Check.due("clear of it", desk.clear(), 0);
        Check.due("run of no script", desk.run(), 1);
        Check.due("after it", Check.stateOf(desk), "0 [] false place -1 counts 0 0");
        // With the signature 0 alone the secret decides: 0 of the secrets 0, 1, 2.
        Check.due("run of a signature", Check.runOf(desk, 1, 0, 1, 0, 172), 1);
        Check.due("its answer", Check.stackOf(desk), "01");
    }

    private static void objectsAreApart() {
        ScriptDesk one = new ScriptDesk();
        ScriptDesk other = new ScriptDesk();
        one.secret(1);
        Check.load(one, 81, 82, 83);
        Check.due("no script in the other", other.run(), 1);
        Check.due("nothing in the other", other.size(), 0);
        Check.due("run of the one", one.run(), 1);
        Check.due("a fault of the other", Check.runOf(other, 97, 106), -10);
        Check.due("the one", Check.stateOf(one), "3 [01 02 03] true place -1 counts 0 0");
        Check.due("the other", Check.stateOf(other), "0 [] false place 1 counts 2 0");
        Check.due("the other's secret", Check.runOf(other, 1, 0, 1, 0, 172), 1);
        Check.due("is its own", Check.stackOf(other), "01");
        Check.due("the one's secret", Check.runOf(one, 109, 117, 1, 0, 1, 0, 172), 1);
        Check.due("is its own too", Check.stackOf(one), "-");
    }

    /** "The lowest n bytes of v, the highest of them first, come behind the script: true". */
    private static void putTakesTheLowestBytes() {
        long[] values = {0L, -1L, 1L, Long.MIN_VALUE, Long.MAX_VALUE, 0x0102030405060708L, 0xf1f2f3f4f5f6f7f8L, 255L, 256L,
            0x80L, 0xffffffffL, 0x100000000L};
        for (long v : values) {
            for (int n = 1; n <= 8; n++) {
                ScriptDesk desk = new ScriptDesk();
                Check.due("put of the push", desk.put(n, 1), true);
                Check.due("put of " + n, desk.put(v, n), true);
                Check.due("run", desk.run(), 1);
                String all = String.format("%016x", v);
                Check.due(n + " bytes of " + all, Check.stackOf(desk), all.substring(16 - 2 * n));
            }
        }
        // Behind the script: each put goes behind the one before.
        ScriptDesk desk = new ScriptDesk();
        Check.due("nine bytes in nine puts", desk.put(8L, 1), true);
        for (int i = 1; i <= 8; i++) {
            Check.due("put " + i, desk.put(i, 1), true);
        }
        Check.due("run of nine", desk.run(), 1);
        Check.due("in their order", Check.stackOf(desk), "0102030405060708");
    }

    /** "false if n is not 1 .. 8". */
    private static void putTakesOneToEightBytes() {
        for (int n = -300; n <= 300; n++) {
            Check.due("put with n " + n, new ScriptDesk().put(0x5151515151515151L, n), n >= 1 && n <= 8);
        }
        int[] far = {Integer.MIN_VALUE, Integer.MIN_VALUE + 1, Integer.MIN_VALUE + 8, Integer.MAX_VALUE,
            Integer.MAX_VALUE - 1, Integer.MAX_VALUE - 199, Integer.MAX_VALUE - 200, 65537, 1 << 24};
        for (int n : far) {
            ScriptDesk desk = new ScriptDesk();
            Check.due("put with n " + n, desk.put(0L, n), false);
            Check.load(desk, Check.times(100, 81, 117));
            Check.due("put with n " + n + " at 200", desk.put(0L, n), false);
            Check.due("run", desk.run(), 1);
        }
    }

    /** "A call that is refused changes nothing." */
    private static void refusedCallsChangeNothing() {
        State[] states = {
            desk -> { },
            desk -> Check.load(desk, 81, 82),
            desk -> Check.load(desk, Check.times(100, 81, 117)),
            desk -> Check.runOf(desk, 81, 2, 5, 6, 0, 83, 83, 172),
            desk -> {
                Check.runOf(desk, 81, 2, 5, 6, 97);
                Check.load(desk, 118, 147);
            },
            desk -> {
                Check.runOf(desk, 83, 83, 172, 97, 106);
                Check.load(desk, 88);
            },
            desk -> {
                Check.runOf(desk, Check.times(60, 0));
                Check.load(desk, Check.times(100, 117, 81));
            },
        };
        for (State state : states) {
            for (int n : FAR) {
                stays(state, desk -> Check.due("put with n " + n, desk.put(-1L, n), false));
                stays(state, desk -> Check.due("bytes(" + n + ")", desk.bytes(n), -1));
                stays(state, desk -> Check.due("byteOf(" + n + ", 0)", desk.byteOf(n, 0), -1));
                stays(state, desk -> Check.due("byteOf(0, " + n + ")", desk.byteOf(0, n), -1));
                stays(state, desk -> Check.due("count(" + n + ")", desk.count(n), -1));
            }
            int[] above = {60, 61, 120, 121, 255, 65536, Integer.MAX_VALUE};
            for (int n : above) {
                stays(state, desk -> Check.due("put with n " + n, desk.put(-1L, n), false));
                stays(state, desk -> Check.due("bytes(" + n + ")", desk.bytes(n), -1));
                stays(state, desk -> Check.due("byteOf(" + n + ", 0)", desk.byteOf(n, 0), -1));
                stays(state, desk -> Check.due("byteOf(0, " + n + ")", desk.byteOf(0, n), -1));
                stays(state, desk -> Check.due("count(" + n + ")", desk.count(n), -1));
            }
            stays(state, desk -> Check.due("put with n 0", desk.put(-1L, 0), false));
            stays(state, desk -> Check.due("put with n 9", desk.put(-1L, 9), false));
            stays(state, desk -> Check.due("count(2)", desk.count(2), -1));
            stays(state, desk -> Check.due("bytes of none", desk.bytes(desk.size()), -1));
            stays(state, desk -> Check.due("byteOf of none", desk.byteOf(desk.size(), 0), -1));
            stays(state, desk -> Check.due("byteOf behind the last", desk.byteOf(0, Math.max(0, desk.bytes(0))), -1));
        }
        refusedAt200();
    }

    private static void refusedAt200() {
        for (int free = 0; free <= 7; free++) {
            int[] codes = Arrays.copyOf(Check.times(100, 81, 117), 200 - free);
            for (int n = free + 1; n <= 8; n++) {
                int many = n;
                stays(desk -> Check.load(desk, codes), desk -> Check.due("put of " + many, desk.put(-1L, many), false));
            }
        }
    }

    /** Two objects in one state, one of them refuses: they answer alike then, and when their scripts have run. */
    private static void stays(State state, Refused refused) {
        ScriptDesk one = new ScriptDesk();
        ScriptDesk other = new ScriptDesk();
        one.secret(5);
        other.secret(5);
        state.make(one);
        state.make(other);
        String before = Check.stateOf(one);
        refused.call(one);
        Check.due("what a refused call leaves", Check.stateOf(one), before);
        // A signature that fits with the secret 5 alone of 3, 4, 5; and the script that was there goes on before it.
        boolean room = one.put(0x01010100acL, 5);
        Check.due("room behind the script", other.put(0x01010100acL, 5), room);
        Check.due("run behind a refused call", one.run(), other.run());
        Check.due("state behind a refused call", Check.stateOf(one), Check.stateOf(other));
    }

    /** Calls that only ask leave all as it is, the script and the latest place and counts too. */
    private static void askingChangesNothing() {
        ScriptDesk desk = new ScriptDesk();
        Check.due("a run with a fault", Check.runOf(desk, 83, 83, 172, 97, 106), -10);
        Check.load(desk, 81, 1, 255, 97);
        for (int i = 0; i < 5; i++) {
            Check.due("asked " + i, Check.stateOf(desk), "0 [] false place 4 counts 3 1");
        }
        desk.secret(7);
        Check.due("behind a secret", Check.stateOf(desk), "0 [] false place 4 counts 3 1");
        Check.due("behind a put", desk.put(97L, 1), true);
        Check.due("all is as it was", Check.stateOf(desk), "0 [] false place 4 counts 3 1");
        Check.due("behind a clear", desk.clear(), 0);
        Check.due("all is as it was", Check.stateOf(desk), "0 [] false place 4 counts 3 1");
        Check.due("run then", desk.run(), 1);
        for (int i = 0; i < 5; i++) {
            Check.due("asked " + i, Check.stateOf(desk), "2 [01 ff] true place -1 counts 2 0");
        }
    }

    /** "The secret, any number." */
    private static void aSecretStays() {
        ScriptDesk desk = new ScriptDesk();
        int[] values = {1, 2, 3, 0, -1, -2, -3, Integer.MAX_VALUE, Integer.MIN_VALUE, 1431655765, -1431655766};
        for (int value : values) {
            desk.secret(value);
            boolean want = value % 3 == 0;
            Check.due("run", Check.runOf(desk, 1, 0, 1, 0, 172), 1);
            Check.due("with secret " + value, desk.isTrue(), want);
            Check.due("a fault", Check.runOf(desk, 106), -10);
            desk.clear();
            Check.due("run again", Check.runOf(desk, 1, 0, 1, 0, 172), 1);
            Check.due("still with secret " + value, desk.isTrue(), want);
        }
        // What is told last before the run counts, not what was told when the script was put.
        desk.clear();
        desk.secret(1);
        Check.load(desk, 1, 0, 1, 0, 172);
        desk.secret(3);
        Check.due("run with the last one", desk.run(), 1);
        Check.due("fits", desk.isTrue(), true);
    }

    /** "The script, which has no bytes then, is run on the stack as it is". */
    private static void aRunTakesTheScript() {
        ScriptDesk desk = new ScriptDesk();
        Check.load(desk, Check.times(100, 81, 117));
        Check.due("full", desk.put(0L, 1), false);
        Check.due("run", desk.run(), 1);
        Check.due("an empty run", desk.run(), 1);
        Check.due("counts nothing", desk.count(0), 0);
        Check.load(desk, Check.times(100, 81, 117));
        Check.due("full again", desk.put(0L, 1), false);
        Check.due("run again", desk.run(), 1);
        // After a fault nothing of the script is left, neither before nor behind it.
        Check.load(desk, Check.join(Check.row(81, 106), Check.times(198, 82)));
        Check.due("full with a fault", desk.put(0L, 1), false);
        Check.due("run with a fault", desk.run(), -10);
        Check.due("nothing is left", desk.run(), 1);
        Check.due("no element came", desk.size(), 0);
        Check.load(desk, Check.times(100, 81, 117));
        Check.due("200 have room", desk.put(0L, 1), false);
        Check.due("and run", desk.run(), 1);
        Check.due("two runs on one stack", Check.runOf(desk, 81, 82) + Check.runOf(desk, 147), 2);
        Check.due("their stack", Check.stackOf(desk), "03");
    }

    /** "with an empty side stack (what is there at the end is gone)". */
    private static void aRunBeginsWithAnEmptySideStack() {
        ScriptDesk desk = new ScriptDesk();
        Check.due("to the side", Check.runOf(desk, 81, 82, 107), 1);
        Check.due("is gone", Check.stackOf(desk), "01");
        Check.due("nothing to bring back", Check.runOf(desk, 108), -6);
        Check.due("to the side before a fault", Check.runOf(desk, 81, 107, 106), -10);
        Check.due("nothing either", Check.runOf(desk, 108), -6);
        // What was there takes no room in the next run.
        Check.due("sixty aside", Check.runOf(desk, Check.times(60, 81, 107)), 1);
        Check.due("sixty more", Check.runOf(desk, Check.times(60, 82)), 1);
        Check.due("are there", desk.size(), 60);
        Check.due("fifty aside", Check.runOf(desk, Check.times(50, 107)), 1);
        Check.due("ten are left", desk.size(), 10);
        Check.due("the lowest ones", desk.byteOf(9, 0), 2);
        Check.due("sixty aside and a fault", Check.runOf(desk, Check.join(Check.times(50, 81, 107), Check.row(81))), -12);
        Check.due("sixty have room", Check.runOf(desk, Check.times(60, 82)), 1);
    }

    /** "or -1 - its fault: then the stack is empty." */
    private static void aFaultEmptiesTheStack() {
        int[][] faulty = {{1}, Check.sevens(121), Check.times(101, 97), {255}, {108}, {5, 1, 0, 0, 0, 0, 139}, {79, 121},
            {0, 105}, {106}, {104}, Check.times(58, 81), {81, 99}};
        for (int i = 0; i < faulty.length; i++) {
            ScriptDesk desk = new ScriptDesk();
            Check.due("three elements", Check.runOf(desk, 81, 82, 83), 1);
            Check.due("fault " + (i + 1), Check.runOf(desk, faulty[i]), -2 - i);
            Check.due("size after it", desk.size(), 0);
            Check.due("top after it", desk.isTrue(), false);
            Check.due("bytes after it", desk.bytes(0), -1);
            Check.due("byteOf after it", desk.byteOf(0, 0), -1);
            Check.due("clear after it", desk.clear(), 0);
            Check.due("then all goes on", Check.runOf(desk, 84), 1);
            Check.due("with its own alone", Check.stackOf(desk), "04");
        }
    }

    /** A part that is open at a fault, done or not, is not open in the next run. */
    private static void noPartGoesOnIntoTheNextRun() {
        int[][] open = {{0, 99}, {81, 99}, {0, 100}, {81, 100}, {0, 99, 99, 103}, {81, 99, 106}, {0, 99, 1}, {0, 99, 76, 200}};
        for (int[] codes : open) {
            ScriptDesk desk = new ScriptDesk();
            Check.due("a fault in a part", Check.runOf(desk, codes) < -1, true);
            Check.due("all is done then", Check.runOf(desk, 81, 97, 82), 1);
            Check.due("with its elements", Check.stackOf(desk), "01 02");
            Check.due("a fault in a part again", Check.runOf(desk, codes) < -1, true);
            Check.due("no pair is open", Check.runOf(desk, 104), -11);
            Check.due("a fault in a part once more", Check.runOf(desk, codes) < -1, true);
            Check.due("nothing to turn", Check.runOf(desk, 103), -11);
        }
    }

    /** "at which the last run stopped with a fault; -1 if it did not, or there was none." */
    private static void placeIsOfTheLastRun() {
        ScriptDesk desk = new ScriptDesk();
        Check.due("none yet", desk.place(), -1);
        Check.load(desk, 106);
        Check.due("put is no run", desk.place(), -1);
        Check.due("run", desk.run(), -10);
        Check.due("its place", desk.place(), 0);
        Check.load(desk, 97, 97, 106);
        Check.due("still the last run's", desk.place(), 0);
        Check.due("run", desk.run(), -10);
        Check.due("its place", desk.place(), 2);
        Check.due("run of nothing", desk.run(), 1);
        Check.due("no fault", desk.place(), -1);
        int[] full = Check.join(Check.times(99, 81, 117), Check.row(81, 106));
        Check.due("run of 200", Check.runOf(desk, full), -10);
        Check.due("at 199", desk.place(), 199);
        int[] open = Check.join(Check.times(99, 81, 117), Check.row(81, 99));
        Check.due("run of an open 200", Check.runOf(desk, open), -13);
        Check.due("at 200", desk.place(), 200);
    }

    /** "its first byte": of a push, not of what it tells or pushes. */
    private static void placeOfEveryPush() {
        Check.faults(1, 3, 2, 7, 7, 2, 7);
        Check.faults(1, 3, 76, 1, 7, 76, 2, 7);
        Check.faults(1, 4, 77, 1, 0, 7, 77, 2, 0, 7);
        Check.faults(2, 4, Check.join(Check.row(77, 1, 0, 7), Check.sevens(121)));
        Check.faults(11, 120, Check.join(Check.times(60, 1, 7), Check.row(1, 7)));
        Check.faults(9, 3, 2, 106, 106, 106);
        Check.faults(9, 4, 76, 2, 106, 106, 106);
        Check.faults(9, 5, 77, 2, 0, 106, 106, 106);
        Check.faults(12, 5, 81, 99, 2, 7, 7);
    }

    /** "The stack is empty: how many elements it had." */
    private static void clearTellsHowManyThereWere() {
        for (int many = 0; many <= 60; many++) {
            ScriptDesk desk = Check.ends(many, Check.times(many, 81));
            Check.due("clear", desk.clear(), many);
            Check.due("size behind it", desk.size(), 0);
            Check.due("bytes behind it", desk.bytes(0), -1);
            Check.due("isTrue behind it", desk.isTrue(), false);
            Check.due("clear again", desk.clear(), 0);
            Check.due("room for 60", Check.runOf(desk, Check.times(60, 82)), 1);
            Check.due("60", desk.size(), 60);
        }
    }

    /** "Whether the top is true; false without one." */
    private static void isTrueIsOfTheTop() {
        ScriptDesk desk = new ScriptDesk();
        Check.due("without one", desk.isTrue(), false);
        Check.due("0 above 1", Check.runOf(desk, 81, 0), 1);
        Check.due("the top is 0", desk.isTrue(), false);
        Check.due("0 away", Check.runOf(desk, 117), 1);
        Check.due("the top is 1", desk.isTrue(), true);
        Check.due("none left", Check.runOf(desk, 117), 1);
        Check.due("without one again", desk.isTrue(), false);
    }

    /** "How many bytes the element has that has k above it; -1 if there is none." */
    private static void bytesNeedAnElement() {
        for (int many = 0; many <= 60; many++) {
            ScriptDesk desk = Check.ends(many, Check.times(many, 0));
            Check.due("bytes(-1) of " + many, desk.bytes(-1), -1);
            Check.due("bytes(0) of " + many, desk.bytes(0), many == 0 ? -1 : 0);
            Check.due("bytes of the lowest of " + many, desk.bytes(many - 1), many == 0 ? -1 : 0);
            Check.due("bytes of none of " + many, desk.bytes(many), -1);
            Check.due("bytes far below " + many, desk.bytes(many + 1), -1);
        }
        // What was there before shows nothing when it is taken.
        ScriptDesk desk = Check.ends(1, 81, 82, 83, 109);
        Check.due("bytes(1)", desk.bytes(1), -1);
        Check.due("bytes(0)", desk.bytes(0), 1);
    }

    /** "Byte i of it; -1 if there is none." */
    private static void byteOfNeedsAByte() {
        for (int many = 0; many <= 120; many++) {
            ScriptDesk desk = Check.ends(2, Check.join(Check.sevens(many), Check.row(0)));
            Check.due("byte -1 of " + many, desk.byteOf(1, -1), -1);
            Check.due("byte 0 of " + many, desk.byteOf(1, 0), many == 0 ? -1 : 7);
            Check.due("last byte of " + many, desk.byteOf(1, many - 1), many == 0 ? -1 : 7);
            Check.due("byte behind " + many, desk.byteOf(1, many), -1);
            Check.due("byte far behind " + many, desk.byteOf(1, many + 1), -1);
            Check.due("byte of one without", desk.byteOf(0, 0), -1);
            Check.due("byte of none", desk.byteOf(2, 0), -1);
            Check.due("byte above the top", desk.byteOf(-1, 0), -1);
        }
        for (int octet = 0; octet <= 255; octet++) {
            Check.due("byte " + octet, Check.ends(1, 1, octet).byteOf(0, 0), octet);
        }
    }

    /** "Of the last run: 0 how many operations were counted, 1 how many pairs .. were asked; -1 for another what." */
    private static void countIsOfTheLastRun() {
        ScriptDesk desk = new ScriptDesk();
        for (int what = -10; what <= 10; what++) {
            Check.due("count(" + what + ")", desk.count(what), what == 0 || what == 1 ? 0 : -1);
        }
        Check.due("run", Check.runOf(desk, 83, 83, 172, 83, 83, 173, 97), 1);
        Check.due("operations", desk.count(0), 3);
        Check.due("pairs", desk.count(1), 2);
        Check.load(desk, 97);
        Check.due("still the last run's", desk.count(0), 3);
        desk.clear();
        Check.due("still the last run's", desk.count(1), 2);
        Check.due("run", desk.run(), 1);
        Check.due("operations of this", desk.count(0), 1);
        Check.due("pairs of this", desk.count(1), 0);
        Check.due("run of nothing", desk.run(), 1);
        Check.due("no operations", desk.count(0), 0);
        // Pairs that were asked before a fault were asked.
        Check.due("run with a fault", Check.runOf(desk, 83, 83, 172, 81, 81, 173), -9);
        Check.due("operations up to it", desk.count(0), 2);
        Check.due("pairs up to it", desk.count(1), 2);
        // Eleven times 174, each asking one signature of seven keys.
        int[] asking = {0, 81, 81, 81, 81, 81, 81, 81, 81, 81, 87, 174, 117};
        Check.due("run of many", Check.runOf(desk, Check.times(11, asking)), 1);
        Check.due("operations of many", desk.count(0), 99);
        Check.due("pairs of many", desk.count(1), 77);
    }

    /** "An object is used for at most 512 calls after it has been made". */
    private static void anObjectAnswers512Calls() {
        ScriptDesk desk = new ScriptDesk();
        for (int i = 0; i < 128; i++) {
            Check.due("put " + i, desk.put(0x01007600L + (i << 16), 4), true);
            Check.due("run " + i, desk.run(), 1);
            Check.due("byteOf " + i, desk.byteOf(1, 0), i);
            Check.due("clear " + i, desk.clear(), 3);
        }
    }
}
