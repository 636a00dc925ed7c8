/** Promises 1 to 11, one method each. */
public final class PromiseTest {
    public static void main(String[] args) {
        aNewObject();
        put();
        secret();
        run();
        place();
        clear();
        size();
        isTrue();
        bytes();
        byteOf();
        count();
        Check.end("PromiseTest");
    }

    private static void aNewObject() {
        ScriptDesk desk = new ScriptDesk();
        Check.due("size of a new one", desk.size(), 0);
        Check.due("isTrue of a new one", desk.isTrue(), false);
        Check.due("bytes of a new one", desk.bytes(0), -1);
        Check.due("byteOf of a new one", desk.byteOf(0, 0), -1);
        Check.due("place of a new one", desk.place(), -1);
        Check.due("count 0 of a new one", desk.count(0), 0);
        Check.due("count 1 of a new one", desk.count(1), 0);
        Check.due("clear of a new one", desk.clear(), 0);
        Check.due("run of a new one", desk.run(), 1);
        Check.due("size after no script", desk.size(), 0);
        Check.due("place after no script", desk.place(), -1);
        // 3 * 2 + 3 is divisible by 3 with the secret 0 alone of 0, 1, 2.
        Check.due("run with the first secret", Check.runOf(desk, 83, 82, 172), 1);
        Check.due("secret is 0", desk.isTrue(), true);
        Check.due("another object is not touched", new ScriptDesk().size(), 0);
    }

    private static void put() {
        ScriptDesk desk = new ScriptDesk();
        Check.due("put n 0", desk.put(1L, 0), false);
        Check.due("put n -1", desk.put(1L, -1), false);
        Check.due("put n 9", desk.put(1L, 9), false);
        Check.due("put n least", desk.put(1L, Integer.MIN_VALUE), false);
        Check.due("put n most", desk.put(1L, Integer.MAX_VALUE), false);
        Check.due("run after refusals", desk.run(), 1);
        Check.due("size after refusals", desk.size(), 0);
        Check.due("put 8", desk.put(0x0701020304050607L, 8), true);
        Check.due("run of 8", desk.run(), 1);
        Check.due("highest first", Check.stackOf(desk), "01020304050607");
        desk.clear();
        Check.due("put below 0", desk.put(0xffffffffffffff51L, 1), true);
        Check.due("put the lowest alone", desk.put(0x1122330305feL, 3), true);
        Check.due("run cut off", desk.run(), -2);
        Check.due("its place", desk.place(), 1);
        Check.due("put whole", desk.put(0x0101L, 2) && desk.put(0x02fffeL, 3) && desk.put(0x52L, 1), true);
        Check.due("run of three puts", desk.run(), 1);
        Check.due("behind one another", Check.stackOf(desk), "01 fffe 02");
        putToTheLimit();
    }

    private static void putToTheLimit() {
        ScriptDesk desk = new ScriptDesk();
        for (int i = 0; i < 24; i++) {
            Check.due("put of 8 at " + 8 * i, desk.put(0x5175517551755175L, 8), true);
        }
        Check.due("put to 199", desk.put(0x51755175517551L, 7), true);
        Check.due("put to 201", desk.put(0x5175L, 2), false);
        Check.due("put to 207", desk.put(0x5175L, 8), false);
        Check.due("put to 200", desk.put(0x75L, 1), true);
        Check.due("put to 201", desk.put(0x75L, 1), false);
        Check.due("run of 200 bytes", desk.run(), 1);
        Check.due("all operations", desk.count(0), 100);
        Check.due("size after 200 bytes", desk.size(), 0);
        Check.due("put again", desk.put(0x51L, 1), true);
        Check.due("run again", desk.run(), 1);
        Check.due("size again", desk.size(), 1);
    }

    private static void secret() {
        // s = 05 07, k = 09 04: 5 * 4 + 7 = 27.
        int[] codes = {2, 5, 7, 2, 9, 4, 172};
        int[] secrets = {0, 1, 2, 3, -1, -2, -3, Integer.MAX_VALUE, Integer.MIN_VALUE, 2147483646, -2147483646};
        for (int value : secrets) {
            ScriptDesk desk = new ScriptDesk();
            desk.secret(value);
            Check.due("run with secret " + value, Check.runOf(desk, codes), 1);
            Check.due("fits with secret " + value, desk.isTrue(), Math.floorMod((long) value, 3L) == 0L);
        }
        ScriptDesk desk = new ScriptDesk();
        desk.secret(1);
        desk.secret(2);
        // 1 * 0 + 1 + 2; the last secret told counts, and stays over runs.
        Check.due("run with 2", Check.runOf(desk, 81, 1, 0, 172), 1);
        Check.due("fits with 2", desk.isTrue(), true);
        Check.due("run with 2 again", Check.runOf(desk, 81, 1, 0, 172), 1);
        Check.due("both fit", Check.stackOf(desk), "01 01");
        // The largest secret and the largest bytes together would wrap around in 32 bits.
        desk.secret(Integer.MAX_VALUE);
        desk.clear();
        Check.due("run with the largest", Check.runOf(desk, 1, 255, 1, 255, 172), 1);
        Check.due("2147483647 + 65025 + 255 = 3 * .. + 1", desk.isTrue(), (2147483647L + 65025L + 255L) % 3L == 0L);
        desk.secret(Integer.MAX_VALUE - 1);
        Check.due("run with one less", Check.runOf(desk, 1, 255, 1, 255, 172), 1);
        Check.due("one less fits", desk.isTrue(), (2147483646L + 65025L + 255L) % 3L == 0L);
    }

    private static void run() {
        ScriptDesk desk = new ScriptDesk();
        Check.due("run of pushes", Check.runOf(desk, 81, 82, 83), 1);
        Check.due("the script is gone", desk.run(), 1);
        Check.due("the stack stays", Check.stackOf(desk), "01 02 03");
        Check.due("run on the stack as it is", Check.runOf(desk, 147, 107), 1);
        Check.due("what went to the side is gone", Check.stackOf(desk), "01");
        Check.due("the side stack is empty at the start", Check.runOf(desk, 108), -6);
        Check.due("the stack is empty after a fault", desk.size(), 0);
        Check.due("the script is gone after a fault", desk.run(), 1);
        Check.due("a part that is open does not go on", Check.runOf(desk, 0, 99), -13);
        Check.due("in the next run", Check.runOf(desk, 81), 1);
        Check.due("all is done", desk.size(), 1);
        Check.due("what stands on the side is gone after a fault", Check.runOf(desk, 107, 106), -10);
        Check.due("also then", Check.runOf(desk, 108), -6);
        Check.due("elements of before count", Check.runOf(desk, Check.times(60, 81)), 1);
        Check.due("60 are there", desk.size(), 60);
        Check.due("one more", Check.runOf(desk, 81), -12);
        Check.due("none left", desk.size(), 0);
    }

    private static void place() {
        ScriptDesk desk = new ScriptDesk();
        Check.due("a fault behind pushes", Check.runOf(desk, 2, 7, 7, 76, 1, 9, 77, 2, 0, 8, 8, 106), -10);
        Check.due("place of its first byte", desk.place(), 11);
        Check.due("a refused put", desk.put(0L, 0), false);
        Check.due("place is kept", desk.place(), 11);
        desk.clear();
        Check.due("place is kept over clear", desk.place(), 11);
        Check.due("a run without fault", Check.runOf(desk, 81), 1);
        Check.due("no place", desk.place(), -1);
        Check.due("fault at 0", Check.runOf(desk, 106), -10);
        Check.due("place 0", desk.place(), 0);
        Check.due("no end", Check.runOf(desk, 81, 99, 81, 82), -13);
        Check.due("place is the length", desk.place(), 4);
        Check.due("a run of nothing", desk.run(), 1);
        Check.due("no place again", desk.place(), -1);
        Check.due("a push's place is its code", Check.runOf(desk, 81, 77, 5, 0, 1, 2), -2);
        Check.due("place of a push", desk.place(), 1);
    }

    private static void clear() {
        ScriptDesk desk = new ScriptDesk();
        Check.runOf(desk, 81, 82, 83);
        Check.load(desk, 84);
        Check.due("clear", desk.clear(), 3);
        Check.due("size then", desk.size(), 0);
        Check.due("clear again", desk.clear(), 0);
        Check.due("the script is kept", desk.run(), 1);
        Check.due("its push", Check.stackOf(desk), "04");
    }

    private static void size() {
        ScriptDesk desk = new ScriptDesk();
        for (int many = 1; many <= 60; many++) {
            Check.runOf(desk, 0);
            Check.due("size", desk.size(), many);
        }
        Check.load(desk, 81);
        Check.due("put changes no size", desk.size(), 60);
    }

    private static void isTrue() {
        truth(false, 0);
        truth(false, 1, 0);
        truth(false, 1, 128);
        truth(false, 2, 0, 128);
        truth(false, 3, 0, 0, 0);
        truth(true, 1, 1);
        truth(true, 1, 127);
        truth(true, 1, 129);
        truth(true, 1, 255);
        truth(true, 2, 128, 0);
        truth(true, 2, 128, 128);
        truth(true, 2, 0, 129);
        truth(true, 2, 1, 0);
        truth(true, 5, 0, 1, 0, 0, 128);
        truth(true, Check.sevens(120));
        truth(false, Check.join(Check.row(76, 120), Check.times(119, 0), Check.row(128)));
        truth(true, Check.join(Check.row(76, 120), Check.times(119, 0), Check.row(64)));
        // Bytes of an earlier, longer element in the same place must not count.
        truth(false, 3, 9, 9, 9, 117, 1, 0);
        truth(false, 81, 0);
        truth(true, 0, 81);
    }

    private static void truth(boolean want, int... codes) {
        ScriptDesk desk = new ScriptDesk();
        Check.due("run", Check.runOf(desk, codes), 1);
        Check.due("isTrue of " + Check.stackOf(desk), desk.isTrue(), want);
    }

    private static void bytes() {
        ScriptDesk desk = new ScriptDesk();
        Check.runOf(desk, Check.join(Check.sevens(120), Check.row(0, 3, 1, 2, 3)));
        Check.due("bytes(0)", desk.bytes(0), 3);
        Check.due("bytes(1)", desk.bytes(1), 0);
        Check.due("bytes(2)", desk.bytes(2), 120);
        int[] none = {3, 4, 59, 60, 64, 65, -1, -2, Integer.MIN_VALUE, Integer.MAX_VALUE};
        for (int k : none) {
            Check.due("bytes(" + k + ")", desk.bytes(k), -1);
        }
        desk.clear();
        Check.due("bytes(0) of none", desk.bytes(0), -1);
    }

    private static void byteOf() {
        ScriptDesk desk = new ScriptDesk();
        Check.runOf(desk, Check.join(Check.sevens(120), Check.row(0, 3, 1, 0, 255)));
        Check.due("byteOf(0, 0)", desk.byteOf(0, 0), 1);
        Check.due("byteOf(0, 1)", desk.byteOf(0, 1), 0);
        Check.due("byteOf(0, 2)", desk.byteOf(0, 2), 255);
        Check.due("byteOf(2, 119)", desk.byteOf(2, 119), 7);
        int[] wrong = {120, -1, Integer.MIN_VALUE, Integer.MAX_VALUE};
        for (int i : wrong) {
            Check.due("byteOf(0, " + i + ")", desk.byteOf(0, i), -1);
            Check.due("byteOf(2, " + i + ")", desk.byteOf(2, i), -1);
            Check.due("byteOf(" + i + ", 0)", desk.byteOf(i, 0), -1);
            Check.due("byteOf(" + i + ", " + i + ")", desk.byteOf(i, i), -1);
        }
        Check.due("byteOf(0, 3)", desk.byteOf(0, 3), -1);
        Check.due("byteOf(1, 0)", desk.byteOf(1, 0), -1);
        Check.due("byteOf(3, 0)", desk.byteOf(3, 0), -1);
    }

    private static void count() {
        ScriptDesk desk = new ScriptDesk();
        Check.due("run", Check.runOf(desk, 81, 79, 96, 0, 97, 117, 117), 1);
        Check.due("those above 96 are counted", desk.count(0), 3);
        Check.due("none was asked", desk.count(1), 0);
        int[] others = {2, -1, Integer.MIN_VALUE, Integer.MAX_VALUE};
        for (int what : others) {
            Check.due("count(" + what + ")", desk.count(what), -1);
        }
        desk.clear();
        Check.due("run with a part not done", Check.runOf(desk, 0, 99, 255, 174, 172, 106, 104, 81, 81, 172), 1);
        Check.due("also those not done", desk.count(0), 7);
        Check.due("only pairs that were asked", desk.count(1), 1);
        Check.due("run on nothing", desk.run(), 1);
        Check.due("of the last run", desk.count(0), 0);
        Check.due("asked in the last run", desk.count(1), 0);
        Check.due("run with a fault", Check.runOf(desk, 81, 81, 172, 0, 81, 172, 255, 97), -5);
        Check.due("up to the fault", desk.count(0), 3);
        Check.due("a pair without bytes is asked too", desk.count(1), 2);
        // Three keys, none of them fitting one signature, are three more operations and three pairs.
        Check.due("run of 174", Check.runOf(desk, 0, 81, 81, 81, 81, 81, 83, 174), 1);
        Check.due("operations of 174", desk.count(0), 4);
        Check.due("pairs of 174", desk.count(1), 3);
        Check.due("run of 101", Check.runOf(desk, Check.times(101, 97)), -4);
        Check.due("the one that was too many is counted", desk.count(0), 101);
        Check.due("run of 98 and 174", Check.runOf(desk, Check.join(Check.times(98, 97), Check.row(88, 174))), -4);
        Check.due("keys come all at once", desk.count(0), 107);
        Check.due("n not as said", Check.runOf(desk, 89, 174), -8);
        Check.due("its keys are not counted", desk.count(0), 1);
        Check.due("without x", Check.runOf(desk, 81, 81, 81, 81, 174), -6);
        Check.due("its key is counted", desk.count(0), 2);
        Check.due("but no pair asked", desk.count(1), 0);
    }
}
