/** What the tests share: bytes into scripts, stacks as texts, and a count of wrong answers. */
final class Check {
    private static int wrong = 0;
    private static int asked = 0;

    private Check() {
    }

    static void due(String call, long got, long want) {
        asked++;
        if (got != want) {
            wrong++;
            System.out.println(call + " answered " + got + ", due is " + want);
        }
    }

    static void due(String call, boolean got, boolean want) {
        due(call, got ? 1L : 0L, want ? 1L : 0L);
    }

    static void due(String call, String got, String want) {
        asked++;
        if (!got.equals(want)) {
            wrong++;
            System.out.println(call + " answered '" + got + "', due is '" + want + "'");
        }
    }

    static void end(String name) {
        System.out.println(name + ": " + asked + " answers, " + wrong + " wrong");
        if (wrong != 0 || asked == 0) {
            System.exit(1);
        }
    }

    static int[] join(int[]... parts) {
        int length = 0;
        for (int[] part : parts) {
            length += part.length;
        }
        int[] all = new int[length];
        int at = 0;
        for (int[] part : parts) {
            System.arraycopy(part, 0, all, at, part.length);
            at += part.length;
        }
        return all;
    }

    static int[] row(int... codes) {
        return codes;
    }

    static int[] times(int many, int... codes) {
        int[] all = new int[many * codes.length];
        for (int i = 0; i < all.length; i++) {
            all[i] = codes[i % codes.length];
        }
        return all;
    }

    /** A push of so many bytes 7, by code 76. */
    static int[] sevens(int many) {
        return join(row(76, many), times(many, 7));
    }

    /** Written apart from the class: the bytes of a number, a push of them, and their text. */
    private static int[] bytesOf(long value) {
        String digits = java.math.BigInteger.valueOf(value).abs().toString(2);
        int many = value == 0 ? 0 : digits.length() / 8 + 1;
        int[] octets = new int[many];
        for (int i = 0; i < many; i++) {
            octets[i] = (int) ((Math.abs(value) >> 8 * i) % 256);
        }
        if (value < 0) {
            octets[many - 1] += 128;
        }
        return octets;
    }

    static int[] pushOf(long value) {
        int[] octets = bytesOf(value);
        return join(row(octets.length), octets);
    }

    static String numberText(long value) {
        StringBuilder text = new StringBuilder();
        for (int octet : bytesOf(value)) {
            text.append(String.format("%02x", octet));
        }
        return text.length() == 0 ? "-" : text.toString();
    }

    /** Eight bytes a call, as an object is used for 512 calls at most. */
    static void load(ScriptDesk desk, int... codes) {
        for (int from = 0; from < codes.length; from += 8) {
            int many = Math.min(8, codes.length - from);
            due("put of " + many + " bytes at " + from, desk.put(packed(codes, from, many), many), true);
        }
    }

    static long packed(int[] codes, int from, int many) {
        long packed = 0;
        for (int i = 0; i < many; i++) {
            packed = packed << 8 | codes[from + i] & 255;
        }
        return packed;
    }

    static int runOf(ScriptDesk desk, int... codes) {
        load(desk, codes);
        return desk.run();
    }

    /** The elements from the lowest to the top, in hex, one without bytes as '-'. */
    static String stackOf(ScriptDesk desk) {
        StringBuilder text = new StringBuilder();
        for (int k = desk.size() - 1; k >= 0; k--) {
            int many = desk.bytes(k);
            text.append(text.length() == 0 ? "" : " ");
            text.append(many == 0 ? "-" : "");
            for (int i = 0; i < many; i++) {
                text.append(String.format("%02x", desk.byteOf(k, i)));
            }
        }
        return text.toString();
    }

    /** All that can be asked without changing anything, but for the script and the secret. */
    static String stateOf(ScriptDesk desk) {
        StringBuilder text = new StringBuilder();
        text.append(desk.size()).append(" [").append(stackOf(desk)).append("] ").append(desk.isTrue());
        text.append(" place ").append(desk.place());
        text.append(" counts ").append(desk.count(0)).append(' ').append(desk.count(1));
        return text.toString();
    }

    /** A run on a new object that ends well, for stacks too high to be told as a text. */
    static ScriptDesk ends(int size, int... codes) {
        ScriptDesk desk = new ScriptDesk();
        String name = java.util.Arrays.toString(codes);
        due("run of " + name, runOf(desk, codes), 1);
        due("place after " + name, desk.place(), -1);
        due("size after " + name, desk.size(), size);
        return desk;
    }

    static ScriptDesk leaves(String stack, int... codes) {
        ScriptDesk desk = new ScriptDesk();
        String name = java.util.Arrays.toString(codes);
        due("run of " + name, runOf(desk, codes), 1);
        due("place after " + name, desk.place(), -1);
        due("stack after " + name, stackOf(desk), stack);
        return desk;
    }

    static ScriptDesk faults(int fault, int place, int... codes) {
        ScriptDesk desk = new ScriptDesk();
        String name = java.util.Arrays.toString(codes);
        due("run of " + name, runOf(desk, codes), -1 - fault);
        due("place after " + name, desk.place(), place);
        due("size after " + name, desk.size(), 0);
        return desk;
    }
}
