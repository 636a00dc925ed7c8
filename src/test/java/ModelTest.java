import java.lang.management.ManagementFactory;
import java.util.Random;

/** Scripts from a fixed seed: the class answers as the model does, never throws, and makes nothing in a call. */
public final class ModelTest {
    private static final int DESKS = 40000;
    private static final int[] KNOWN = {0, 0, 79, 81, 81, 82, 82, 83, 84, 85, 88, 96, 97, 99, 99, 100, 103, 103, 104, 104,
        105, 106, 107, 107, 108, 108, 109, 110, 111, 112, 113, 114, 115, 116, 117, 118, 119, 120, 121, 122, 123, 124, 125,
        130, 135, 136, 139, 140, 143, 144, 145, 146, 147, 147, 148, 154, 155, 156, 157, 158, 159, 160, 161, 162, 163,
        164, 165, 166, 168, 169, 170, 172, 173, 174, 175};
    private static final int[] GROWING = {110, 111, 112, 118, 120, 125, 116, 81, 82, 83, 107, 108};

    public static void main(String[] args) {
        Random chance = new Random(20261115L);
        int[] answers = new int[14];
        for (int i = 0; i < DESKS; i++) {
            compare(chance, answers);
        }
        for (int i = 1; i <= 13; i++) {
            // A fault that no script met would mean that this test looks at too little.
            Check.due("answer of kind " + i + " was met", answers[i] > 50, true);
        }
        System.out.println("runs by fault (13: none): " + java.util.Arrays.toString(answers));
        makesNothing();
        Check.end("ModelTest");
    }

    private static void compare(Random chance, int[] answers) {
        ScriptDesk desk = new ScriptDesk();
        Model model = new Model();
        for (int round = 0; round < 4; round++) {
            if (chance.nextInt(3) == 0) {
                model.secret = chance.nextInt();
                desk.secret(model.secret);
            }
            int[] script = script(chance);
            Check.load(desk, script);
            int want = model.run(script);
            answers[want == 1 ? 13 : -1 - want]++;
            String name = java.util.Arrays.toString(script);
            Check.due("run of " + name, desk.run(), want);
            Check.due("place after " + name, desk.place(), model.place);
            Check.due("count 0 after " + name, desk.count(0), model.counted);
            Check.due("count 1 after " + name, desk.count(1), model.asked);
            Check.due("size after " + name, desk.size(), model.stack.size());
            sameStack(desk, model, name);
            if (chance.nextInt(8) == 0) {
                Check.due("clear after " + name, desk.clear(), model.stack.size());
                model.stack.clear();
            }
        }
    }

    /** All lengths, but of the bytes of long elements only some: an object has 512 calls. */
    private static void sameStack(ScriptDesk desk, Model model, String name) {
        int many = model.stack.size();
        Check.due("isTrue after " + name, desk.isTrue(), many > 0 && Model.truth(model.stack.get(many - 1)));
        Check.due("bytes of none after " + name, desk.bytes(many), -1);
        for (int k = 0; k < many; k++) {
            byte[] element = model.stack.get(many - 1 - k);
            Check.due("bytes(" + k + ") after " + name, desk.bytes(k), element.length);
            Check.due("byte behind the last after " + name, desk.byteOf(k, element.length), -1);
            for (int i = 0; i < element.length; i += 1 + element.length / 5) {
                Check.due("byteOf(" + k + ", " + i + ") after " + name, desk.byteOf(k, i), element[i] & 255);
            }
        }
    }

    private static int[] script(Random chance) {
        int kind = chance.nextInt(8);
        int wanted = kind == 0 ? chance.nextInt(201) : kind == 1 ? 200 : chance.nextInt(30);
        int[] script = new int[0];
        int depth = 0;
        for (int i = 0; i < 200 && script.length < wanted; i++) {
            int[] more = piece(chance, kind);
            if (script.length + more.length <= 200) {
                script = Check.join(script, more);
                depth += count(more, 99) + count(more, 100) - count(more, 104);
            }
        }
        int missing = Math.min(Math.max(0, depth), 200 - script.length);
        return chance.nextInt(4) == 0 ? script : Check.join(script, Check.times(missing, 104));
    }

    private static int count(int[] codes, int code) {
        int many = 0;
        for (int other : codes) {
            many += other == code ? 1 : 0;
        }
        return many;
    }

    private static int[] piece(Random chance, int kind) {
        if (kind == 1 && chance.nextInt(30) != 0) {
            return Check.row(chance.nextInt(5) == 0 ? 81 : 97);
        }
        if (kind == 2 || kind == 0 && chance.nextBoolean()) {
            return Check.row(GROWING[chance.nextInt(GROWING.length)], 81 + chance.nextInt(16));
        }
        switch (chance.nextInt(24)) {
            case 0:
                return Check.row(chance.nextInt(256));
            case 1:
            case 2:
                return push(chance, chance.nextInt(7));
            case 3:
                return Check.join(Check.row(76, chance.nextInt(4)), bytes(chance, chance.nextInt(4)));
            case 4:
                return Check.join(Check.row(77, chance.nextInt(4), chance.nextInt(60) / 59), bytes(chance, 3));
            case 5:
                return chance.nextInt(6) == 0 ? Check.join(Check.row(76, 118 + chance.nextInt(6)), bytes(chance, 124))
                    : push(chance, chance.nextInt(76));
            case 6:
            case 7:
                return many(chance);
            case 8:
            case 9:
                return Check.join(push(chance, 4), push(chance, chance.nextInt(5)), Check.row(139 + chance.nextInt(27)));
            case 10:
            case 11:
            case 12:
            case 13:
                return Check.row(81 + chance.nextInt(5), 81 + chance.nextInt(5));
            default:
                return Check.row(KNOWN[chance.nextInt(KNOWN.length)]);
        }
    }

    private static int[] push(Random chance, int many) {
        return Check.join(Check.row(many), bytes(chance, many));
    }

    /** Bytes with many of those at which signs and truths turn. */
    private static int[] bytes(Random chance, int many) {
        int[] edges = {0, 0, 1, 127, 128, 129, 255};
        int[] row = new int[many];
        for (int i = 0; i < many; i++) {
            row[i] = chance.nextInt(3) == 0 ? chance.nextInt(256) : edges[chance.nextInt(edges.length)];
        }
        return row;
    }

    private static int[] many(Random chance) {
        int n = chance.nextInt(9);
        int m = chance.nextInt(n + 1);
        int[] row = {0};
        for (int i = 0; i < m; i++) {
            row = Check.join(row, Check.row(81 + chance.nextInt(16)));
        }
        row = Check.join(row, Check.row(m > 0 ? 80 + m : 0));
        for (int i = 0; i < n; i++) {
            row = Check.join(row, Check.row(81 + chance.nextInt(16)));
        }
        return Check.join(row, Check.row(n > 0 ? 80 + n : 0, 174 + chance.nextInt(5) / 4));
    }

    private static void makesNothing() {
        com.sun.management.ThreadMXBean threads = (com.sun.management.ThreadMXBean) ManagementFactory.getThreadMXBean();
        long thread = Thread.currentThread().getId();
        ScriptDesk desk = new ScriptDesk();
        long before = 0;
        for (int i = 0; i < 200; i++) {
            if (i == 20) {
                before = threads.getThreadAllocatedBytes(thread);
            }
            desk.put(0x5276a9a8aaa66f75L, 8);
            desk.put(0x51525394ac51ac00L, 8);
            desk.run();
        }
        long made = threads.getThreadAllocatedBytes(thread) - before;
        Check.due("calls make " + made + " bytes, but next to none are due", made < 2048, true);
    }
}
