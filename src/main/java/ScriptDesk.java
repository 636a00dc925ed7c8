import java.util.Arrays;

/** A machine of stacks for scripts of bytes; ../shared/DOC.md says what each call promises. */
public final class ScriptDesk {
    private static final int SCRIPT_LIMIT = 200;
    private static final int OPERATION_LIMIT = 100;
    private static final int ELEMENT_LIMIT = 60;
    private static final int ELEMENT_BYTES = 120;
    private static final int NUMBER_BYTES = 4;
    private static final int KEY_LIMIT = 8;

    private static final int NO_FAULT = 0;
    private static final int CUT_PUSH = 1;
    private static final int LONG_PUSH = 2;
    private static final int TOO_MANY_OPERATIONS = 3;
    private static final int NO_SUCH_CODE = 4;
    private static final int TOO_FEW_ELEMENTS = 5;
    private static final int LONG_NUMBER = 6;
    private static final int WRONG_N = 7;
    private static final int NOT_TRUE = 8;
    private static final int STOPPED = 9;
    private static final int UNPAIRED = 10;
    private static final int TOO_MANY_ELEMENTS = 11;
    private static final int UNENDED = 12;

    private final int[] script = new int[SCRIPT_LIMIT];
    private int scriptLength;
    private int next;
    private int stoppedAt;
    private final Elements elements;
    private final Tally tally;
    private final Flow flow;
    private final Signatures signatures;
    private final BlockDigest sha256;
    private final BlockDigest ripemd160;

    public ScriptDesk() {
        scriptLength = 0;
        next = 0;
        stoppedAt = -1;
        elements = new Elements();
        tally = new Tally();
        flow = new Flow();
        signatures = new Signatures();
        sha256 = new Sha256();
        ripemd160 = new Ripemd160();
    }

    public boolean put(long v, int n) {
        if (n < 1 || n > 8 || scriptLength + n > SCRIPT_LIMIT) {
            return false;
        }
        for (int shift = 8 * (n - 1); shift >= 0; shift -= 8) {
            script[scriptLength] = (int) ((v >>> shift) & 255L);
            scriptLength++;
        }
        return true;
    }

    public void secret(int v) {
        signatures.hidden = v;
    }

    public int run() {
        int length = scriptLength;
        restart();
        int at = 0;
        int fault = NO_FAULT;
        for (int step = 0; step < SCRIPT_LIMIT && next < length && fault == NO_FAULT; step++) {
            at = next;
            next = at + 1;
            int code = script[at];
            fault = code <= 77 ? pushFromScript(code, at, length) : perform(code);
            if (fault == NO_FAULT && elements.areTooMany()) {
                fault = TOO_MANY_ELEMENTS;
            }
        }
        if (fault == NO_FAULT && flow.isInside()) {
            at = length;
            fault = UNENDED;
        }
        elements.dropSide();
        if (fault == NO_FAULT) {
            return 1;
        }
        elements.drop(elements.depth);
        stoppedAt = at;
        return -1 - fault;
    }

    public int place() {
        return stoppedAt;
    }

    public int clear() {
        int had = elements.depth;
        elements.drop(had);
        return had;
    }

    public int size() {
        return elements.depth;
    }

    public boolean isTrue() {
        return elements.topHolds();
    }

    public int bytes(int k) {
        return elements.lengthAt(k);
    }

    public int byteOf(int k, int i) {
        return elements.octetAt(k, i);
    }

    public int count(int what) {
        if (what == 0) {
            return tally.operations;
        }
        return what == 1 ? signatures.asked : -1;
    }

    private void restart() {
        scriptLength = 0;
        next = 0;
        stoppedAt = -1;
        tally.operations = 0;
        signatures.asked = 0;
        flow.restart();
    }

    /** Faults 1 and 2 hold in a part that is not done too, so the flow is asked behind them. */
    private int pushFromScript(int code, int at, int length) {
        int telling = code <= 75 ? 0 : code - 75;
        int from = at + 1 + telling;
        if (from > length) {
            return CUT_PUSH;
        }
        int many = code;
        if (telling > 0) {
            many = script[at + 1] + (telling == 2 ? 256 * script[at + 2] : 0);
        }
        if (many > length - from) {
            return CUT_PUSH;
        }
        if (many > ELEMENT_BYTES) {
            return LONG_PUSH;
        }
        next = from + many;
        if (flow.isDone()) {
            elements.push(script, from, many);
        }
        return NO_FAULT;
    }

    private int perform(int code) {
        if (code > 96 && tally.passesLimit(1)) {
            return TOO_MANY_OPERATIONS;
        }
        if (code == 99 || code == 100) {
            return enterPart(code == 99);
        }
        if (code == 103 || code == 104) {
            return leavePart(code == 104);
        }
        if (!flow.isDone()) {
            return NO_FAULT;
        }
        if (code <= 96) {
            return pushSmallNumber(code);
        }
        if (code <= 108) {
            return performPlain(code);
        }
        if (code <= 136) {
            return Moves.perform(elements, code);
        }
        if (code <= 165) {
            return Numbers.perform(elements, code);
        }
        return code <= 170 ? performDigest(code) : signatures.perform(elements, tally, code);
    }

    private int enterPart(boolean wanted) {
        if (!flow.isDone()) {
            flow.enter(false);
            return NO_FAULT;
        }
        if (elements.depth < 1) {
            return TOO_FEW_ELEMENTS;
        }
        boolean found = elements.topHolds();
        elements.drop(1);
        flow.enter(found == wanted);
        return NO_FAULT;
    }

    private int leavePart(boolean ends) {
        if (!flow.isInside()) {
            return UNPAIRED;
        }
        if (ends) {
            flow.end();
        } else {
            flow.turn();
        }
        return NO_FAULT;
    }

    private int pushSmallNumber(int code) {
        if (code != 79 && code < 81) {
            return NO_SUCH_CODE;
        }
        elements.pushNumber(code - 80);
        return NO_FAULT;
    }

    private int performPlain(int code) {
        switch (code) {
            case 97:
                return NO_FAULT;
            case 105:
                return elements.takeTrue();
            case 106:
                return STOPPED;
            case 107:
                return elements.toSide();
            case 108:
                return elements.fromSide();
            default:
                return NO_SUCH_CODE;
        }
    }

    private int performDigest(int code) {
        if (code == 167) {
            return NO_SUCH_CODE;
        }
        if (elements.depth < 1) {
            return TOO_FEW_ELEMENTS;
        }
        if (code != 166) {
            sha256.replaceTop(elements);
        }
        if (code == 170) {
            sha256.replaceTop(elements);
        }
        if (code == 166 || code == 169) {
            ripemd160.replaceTop(elements);
        }
        return NO_FAULT;
    }

    /** The operations of a run; apart, because 174 and 175 count their keys as well. */
    private static final class Tally {
        int operations;

        boolean passesLimit(int more) {
            operations += more;
            return operations > OPERATION_LIMIT;
        }
    }

    /** The open parts; the outermost one that is not done decides for all inside it, so it alone is kept. */
    private static final class Flow {
        private int open;
        private int firstNotDone;

        void restart() {
            open = 0;
            firstNotDone = 0;
        }

        boolean isInside() {
            return open > 0;
        }

        boolean isDone() {
            return firstNotDone == 0;
        }

        void enter(boolean done) {
            open++;
            if (!done && firstNotDone == 0) {
                firstNotDone = open;
            }
        }

        void turn() {
            if (firstNotDone == 0) {
                firstNotDone = open;
            } else if (firstNotDone == open) {
                firstNotDone = 0;
            }
        }

        void end() {
            if (firstNotDone == open) {
                firstNotDone = 0;
            }
            open--;
        }
    }

    /**
     * The stack and the side stack in one row of slots: the stack grows from the row's beginning, the side
     * stack from its end, so that a move changes the order of slots alone and copies no bytes.
     */
    private static final class Elements {
        /** An operation adds three at most before they are counted; the row has room for them. */
        private static final int SLOTS = 64;

        private final int[] octets = new int[SLOTS * ELEMENT_BYTES];
        private final int[] lengths = new int[SLOTS];
        private final int[] order = new int[SLOTS];
        private int side;
        int depth;

        Elements() {
            for (int i = 0; i < SLOTS; i++) {
                order[i] = i;
            }
        }

        boolean areTooMany() {
            return depth + side > ELEMENT_LIMIT;
        }

        int lengthAt(int k) {
            if (k < 0 || k >= depth) {
                return -1;
            }
            return lengths[order[depth - 1 - k]];
        }

        int octetAt(int k, int i) {
            if (k < 0 || k >= depth) {
                return -1;
            }
            int slot = order[depth - 1 - k];
            if (i < 0 || i >= lengths[slot]) {
                return -1;
            }
            return octets[slot * ELEMENT_BYTES + i];
        }

        boolean topHolds() {
            int last = lengthAt(0) - 1;
            for (int i = 0; i < last; i++) {
                if (octetAt(0, i) != 0) {
                    return true;
                }
            }
            int octet = octetAt(0, last);
            return octet > 0 && octet != 128;
        }

        boolean areSame(int k, int other) {
            int length = lengthAt(k);
            if (length != lengthAt(other)) {
                return false;
            }
            for (int i = 0; i < length; i++) {
                if (octetAt(k, i) != octetAt(other, i)) {
                    return false;
                }
            }
            return true;
        }

        int faultOfNumber(int k) {
            if (k >= depth) {
                return TOO_FEW_ELEMENTS;
            }
            return lengthAt(k) > NUMBER_BYTES ? LONG_NUMBER : NO_FAULT;
        }

        long numberAt(int k) {
            int last = lengthAt(k) - 1;
            if (last < 0 || last >= NUMBER_BYTES) {
                return 0L;
            }
            long amount = octetAt(k, last) & 127;
            for (int i = last - 1; i >= 0; i--) {
                amount = amount * 256L + octetAt(k, i);
            }
            return octetAt(k, last) >= 128 ? -amount : amount;
        }

        void drop(int many) {
            depth = Math.max(0, depth - many);
        }

        void dropSide() {
            side = 0;
        }

        void push(int[] source, int from, int many) {
            if (from < 0 || many < 0 || many > ELEMENT_BYTES || many > source.length - from || depth + side >= SLOTS) {
                return;
            }
            int slot = order[depth];
            System.arraycopy(source, from, octets, slot * ELEMENT_BYTES, many);
            lengths[slot] = many;
            depth++;
        }

        void pushCopy(int k) {
            int length = lengthAt(k);
            if (length >= 0) {
                push(octets, order[depth - 1 - k] * ELEMENT_BYTES, length);
            }
        }

        void pushCopies(int k, int many) {
            for (int i = 0; i < many; i++) {
                pushCopy(k);
            }
        }

        void pushNumber(long value) {
            if (depth + side >= SLOTS) {
                return;
            }
            int slot = order[depth];
            int begin = slot * ELEMENT_BYTES;
            long rest = value < 0L ? -value : value;
            int length = 0;
            while (length < 8 && rest > 0L) {
                octets[begin + length] = (int) (rest & 255L);
                rest >>= 8;
                length++;
            }
            if (length > 0 && octets[begin + length - 1] >= 128) {
                octets[begin + length] = 0;
                length++;
            }
            if (value < 0L && length > 0) {
                octets[begin + length - 1] |= 128;
            }
            lengths[slot] = length;
            depth++;
        }

        void replaceByTruth(int taken, boolean truth) {
            drop(taken);
            pushNumber(truth ? 1L : 0L);
        }

        void lift(int k) {
            if (k < 0 || k >= depth) {
                return;
            }
            int top = depth - 1;
            int lifted = order[top - k];
            for (int i = top - k; i < top; i++) {
                order[i] = order[i + 1];
            }
            order[top] = lifted;
        }

        int toSide() {
            if (depth < 1 || side >= SLOTS) {
                return TOO_FEW_ELEMENTS;
            }
            swapSlots(depth - 1, SLOTS - 1 - side);
            depth--;
            side++;
            return NO_FAULT;
        }

        int fromSide() {
            if (side < 1 || depth >= SLOTS) {
                return TOO_FEW_ELEMENTS;
            }
            swapSlots(depth, SLOTS - side);
            side--;
            depth++;
            return NO_FAULT;
        }

        int takeTrue() {
            if (depth < 1) {
                return TOO_FEW_ELEMENTS;
            }
            if (!topHolds()) {
                return NOT_TRUE;
            }
            drop(1);
            return NO_FAULT;
        }

        private void swapSlots(int one, int other) {
            int kept = order[one];
            order[one] = order[other];
            order[other] = kept;
        }
    }

    /** Operations 109 .. 136: those that do not care what number an element is, but for 121 and 122. */
    private static final class Moves {
        static int perform(Elements elements, int code) {
            if (code == 121 || code == 122) {
                return pick(elements, code == 122);
            }
            int needed = operandsOf(code);
            if (needed < 0) {
                return NO_SUCH_CODE;
            }
            if (elements.depth < needed) {
                return TOO_FEW_ELEMENTS;
            }
            if (code >= 130) {
                return look(elements, code);
            }
            if (code <= 114) {
                moveGroups(elements, code);
            } else {
                moveSingles(elements, code);
            }
            return NO_FAULT;
        }

        private static int operandsOf(int code) {
            switch (code) {
                case 116:
                    return 0;
                case 115:
                case 117:
                case 118:
                case 130:
                    return 1;
                case 109:
                case 110:
                case 119:
                case 120:
                case 124:
                case 125:
                case 135:
                case 136:
                    return 2;
                case 111:
                case 123:
                    return 3;
                case 112:
                case 114:
                    return 4;
                case 113:
                    return 6;
                default:
                    return -1;
            }
        }

        private static int pick(Elements elements, boolean moved) {
            int fault = elements.faultOfNumber(0);
            if (fault != NO_FAULT) {
                return fault;
            }
            long n = elements.numberAt(0);
            if (n < 0L || n >= elements.depth - 1) {
                return WRONG_N;
            }
            elements.drop(1);
            if (moved) {
                elements.lift((int) n);
            } else {
                elements.pushCopy((int) n);
            }
            return NO_FAULT;
        }

        private static void moveGroups(Elements elements, int code) {
            switch (code) {
                case 109:
                    elements.drop(2);
                    break;
                case 110:
                    elements.pushCopies(1, 2);
                    break;
                case 111:
                    elements.pushCopies(2, 3);
                    break;
                case 112:
                    elements.pushCopies(3, 2);
                    break;
                case 113:
                    elements.lift(5);
                    elements.lift(5);
                    break;
                default:
                    elements.lift(3);
                    elements.lift(3);
                    break;
            }
        }

        private static void moveSingles(Elements elements, int code) {
            switch (code) {
                case 115:
                    elements.pushCopies(0, elements.topHolds() ? 1 : 0);
                    break;
                case 116:
                    elements.pushNumber(elements.depth);
                    break;
                case 117:
                    elements.drop(1);
                    break;
                case 118:
                    elements.pushCopy(0);
                    break;
                case 119:
                    elements.lift(1);
                    elements.drop(1);
                    break;
                case 120:
                    elements.pushCopy(1);
                    break;
                case 123:
                    elements.lift(2);
                    break;
                case 124:
                    elements.lift(1);
                    break;
                default:
                    elements.lift(1);
                    elements.pushCopy(1);
                    break;
            }
        }

        private static int look(Elements elements, int code) {
            if (code == 130) {
                elements.pushNumber(elements.lengthAt(0));
                return NO_FAULT;
            }
            boolean same = elements.areSame(0, 1);
            elements.replaceByTruth(2, same);
            return code == 136 ? elements.takeTrue() : NO_FAULT;
        }
    }

    /** Operations 139 .. 165. */
    private static final class Numbers {
        static int perform(Elements elements, int code) {
            int needed = operandsOf(code);
            if (needed == 0) {
                return NO_SUCH_CODE;
            }
            for (int k = 0; k < needed; k++) {
                int fault = elements.faultOfNumber(k);
                if (fault != NO_FAULT) {
                    return fault;
                }
            }
            long result = resultOf(elements, code, needed);
            elements.drop(needed);
            elements.pushNumber(result);
            return code == 157 ? elements.takeTrue() : NO_FAULT;
        }

        private static int operandsOf(int code) {
            if (code == 139 || code == 140 || code >= 143 && code <= 146) {
                return 1;
            }
            if (code == 147 || code == 148 || code >= 154 && code <= 164) {
                return 2;
            }
            return code == 165 ? 3 : 0;
        }

        private static long resultOf(Elements elements, int code, int needed) {
            long top = elements.numberAt(0);
            if (needed == 1) {
                return ofOne(code, top);
            }
            long under = elements.numberAt(1);
            if (needed == 3) {
                long x = elements.numberAt(2);
                return under <= x && x < top ? 1L : 0L;
            }
            if (code == 147 || code == 148) {
                return code == 147 ? under + top : under - top;
            }
            if (code == 163 || code == 164) {
                return code == 163 ? Math.min(under, top) : Math.max(under, top);
            }
            return compare(code, under, top) ? 1L : 0L;
        }

        private static long ofOne(int code, long a) {
            switch (code) {
                case 139:
                    return a + 1L;
                case 140:
                    return a - 1L;
                case 143:
                    return -a;
                case 144:
                    return a < 0L ? -a : a;
                case 145:
                    return a == 0L ? 1L : 0L;
                default:
                    return a != 0L ? 1L : 0L;
            }
        }

        private static boolean compare(int code, long a, long b) {
            switch (code) {
                case 154:
                    return a != 0L && b != 0L;
                case 155:
                    return a != 0L || b != 0L;
                case 156:
                case 157:
                    return a == b;
                case 158:
                    return a != b;
                case 159:
                    return a < b;
                case 160:
                    return a > b;
                case 161:
                    return a <= b;
                default:
                    return a >= b;
            }
        }
    }

    /** Operations 172 .. 175, with THE RULE that they ask. */
    private static final class Signatures {
        int hidden;
        int asked;

        int perform(Elements elements, Tally tally, int code) {
            if (code < 172 || code > 175) {
                return NO_SUCH_CODE;
            }
            int fault = code <= 173 ? askOne(elements) : askMany(elements, tally);
            boolean mustBeTrue = code == 173 || code == 175;
            return fault == NO_FAULT && mustBeTrue ? elements.takeTrue() : fault;
        }

        private int askOne(Elements elements) {
            if (elements.depth < 2) {
                return TOO_FEW_ELEMENTS;
            }
            boolean answer = fits(elements, 1, 0);
            elements.replaceByTruth(2, answer);
            return NO_FAULT;
        }

        /** The order of the tests is the document's: n, the keys, m, the signatures, x. */
        private int askMany(Elements elements, Tally tally) {
            int fault = faultOfAmount(elements, 0, KEY_LIMIT);
            if (fault != NO_FAULT) {
                return fault;
            }
            int n = (int) elements.numberAt(0);
            if (tally.passesLimit(n)) {
                return TOO_MANY_OPERATIONS;
            }
            fault = faultOfAmount(elements, n + 1, n);
            if (fault != NO_FAULT) {
                return fault;
            }
            int m = (int) elements.numberAt(n + 1);
            int all = n + m + 3;
            if (elements.depth < all) {
                return TOO_FEW_ELEMENTS;
            }
            boolean answer = allFit(elements, n, m);
            elements.replaceByTruth(all, answer);
            return NO_FAULT;
        }

        private static int faultOfAmount(Elements elements, int k, int most) {
            int fault = elements.faultOfNumber(k);
            if (fault != NO_FAULT) {
                return fault;
            }
            long amount = elements.numberAt(k);
            return amount < 0L || amount > most ? WRONG_N : NO_FAULT;
        }

        /** The last key has one element above it, the last signature n + 2. */
        private boolean allFit(Elements elements, int n, int m) {
            int fitted = 0;
            for (int tried = 0; tried < n && fitted < m && m - fitted <= n - tried; tried++) {
                if (fits(elements, n + 2 + fitted, 1 + tried)) {
                    fitted++;
                }
            }
            return fitted == m;
        }

        private boolean fits(Elements elements, int signature, int key) {
            asked++;
            int signatureLength = elements.lengthAt(signature);
            int keyLength = elements.lengthAt(key);
            if (signatureLength < 1 || keyLength < 1) {
                return false;
            }
            // A long sum: a large secret must not wrap around.
            long first = elements.octetAt(signature, 0);
            long last = elements.octetAt(signature, signatureLength - 1);
            long keyLast = elements.octetAt(key, keyLength - 1);
            return (hidden + first * keyLast + last) % 3L == 0L;
        }
    }

    /** What SHA-256 and RIPEMD-160 share: blocks of 64 bytes, the padding, and words that differ in byte order alone. */
    private abstract static class BlockDigest {
        private static final int MESSAGE_BYTES = 192;
        private static final int BLOCK_BYTES = 64;

        private final int[] message = new int[MESSAGE_BYTES];
        private final int[] result;
        private final boolean highFirst;
        final int[] words;
        final int[] state;

        BlockDigest(boolean highFirst, int wordCount, int stateCount) {
            this.highFirst = highFirst;
            words = new int[wordCount];
            state = new int[stateCount];
            result = new int[stateCount * 4];
        }

        /** Puts the standard's first values into the state. */
        abstract void begin();

        /** Works the block that stands in the first 16 words into the state. */
        abstract void mix();

        void replaceTop(Elements elements) {
            int length = elements.lengthAt(0);
            if (length < 0 || length > ELEMENT_BYTES) {
                return;
            }
            int padded = pad(elements, length);
            begin();
            for (int from = 0; from < padded; from += BLOCK_BYTES) {
                readBlock(from);
                mix();
            }
            for (int i = 0; i < state.length; i++) {
                write(state[i], result, 4 * i);
            }
            elements.drop(1);
            elements.push(result, 0, result.length);
        }

        private int pad(Elements elements, int length) {
            int padded = (length + 9 + BLOCK_BYTES - 1) / BLOCK_BYTES * BLOCK_BYTES;
            Arrays.fill(message, 0);
            for (int i = 0; i < length; i++) {
                message[i] = elements.octetAt(0, i);
            }
            message[length] = 128;
            write(8 * length, message, highFirst ? padded - 4 : padded - 8);
            return padded;
        }

        private void readBlock(int from) {
            if (from < 0 || from > MESSAGE_BYTES - BLOCK_BYTES || words.length < 16) {
                return;
            }
            for (int i = 0; i < 16; i++) {
                int word = 0;
                for (int j = 0; j < 4; j++) {
                    word |= message[from + 4 * i + j] << shiftOf(j);
                }
                words[i] = word;
            }
        }

        private void write(int word, int[] target, int from) {
            if (from < 0 || from > target.length - 4) {
                return;
            }
            for (int j = 0; j < 4; j++) {
                target[from + j] = (word >>> shiftOf(j)) & 255;
            }
        }

        private int shiftOf(int j) {
            return highFirst ? 24 - 8 * j : 8 * j;
        }
    }

    /** FIPS 180-4. */
    private static final class Sha256 extends BlockDigest {
        private static final int[] FIRST = {
            0x6a09e667, 0xbb67ae85, 0x3c6ef372, 0xa54ff53a, 0x510e527f, 0x9b05688c, 0x1f83d9ab, 0x5be0cd19
        };
        private static final int[] ROUND = {
            0x428a2f98, 0x71374491, 0xb5c0fbcf, 0xe9b5dba5, 0x3956c25b, 0x59f111f1, 0x923f82a4, 0xab1c5ed5,
            0xd807aa98, 0x12835b01, 0x243185be, 0x550c7dc3, 0x72be5d74, 0x80deb1fe, 0x9bdc06a7, 0xc19bf174,
            0xe49b69c1, 0xefbe4786, 0x0fc19dc6, 0x240ca1cc, 0x2de92c6f, 0x4a7484aa, 0x5cb0a9dc, 0x76f988da,
            0x983e5152, 0xa831c66d, 0xb00327c8, 0xbf597fc7, 0xc6e00bf3, 0xd5a79147, 0x06ca6351, 0x14292967,
            0x27b70a85, 0x2e1b2138, 0x4d2c6dfc, 0x53380d13, 0x650a7354, 0x766a0abb, 0x81c2c92e, 0x92722c85,
            0xa2bfe8a1, 0xa81a664b, 0xc24b8b70, 0xc76c51a3, 0xd192e819, 0xd6990624, 0xf40e3585, 0x106aa070,
            0x19a4c116, 0x1e376c08, 0x2748774c, 0x34b0bcb5, 0x391c0cb3, 0x4ed8aa4a, 0x5b9cca4f, 0x682e6ff3,
            0x748f82ee, 0x78a5636f, 0x84c87814, 0x8cc70208, 0x90befffa, 0xa4506ceb, 0xbef9a3f7, 0xc67178f2
        };

        Sha256() {
            super(true, 64, 8);
        }

        @Override
        void begin() {
            System.arraycopy(FIRST, 0, state, 0, 8);
        }

        @Override
        void mix() {
            spreadWords();
            int a = state[0];
            int b = state[1];
            int c = state[2];
            int d = state[3];
            int e = state[4];
            int f = state[5];
            int g = state[6];
            int h = state[7];
            for (int t = 0; t < 64; t++) {
                int sumE = turned(e, 6) ^ turned(e, 11) ^ turned(e, 25);
                int one = h + sumE + ((e & f) ^ (~e & g)) + ROUND[t] + words[t];
                int sumA = turned(a, 2) ^ turned(a, 13) ^ turned(a, 22);
                int two = sumA + ((a & b) ^ (a & c) ^ (b & c));
                h = g;
                g = f;
                f = e;
                e = d + one;
                d = c;
                c = b;
                b = a;
                a = one + two;
            }
            state[0] += a;
            state[1] += b;
            state[2] += c;
            state[3] += d;
            state[4] += e;
            state[5] += f;
            state[6] += g;
            state[7] += h;
        }

        private void spreadWords() {
            for (int t = 16; t < 64; t++) {
                int early = words[t - 15];
                int late = words[t - 2];
                int sumEarly = turned(early, 7) ^ turned(early, 18) ^ (early >>> 3);
                int sumLate = turned(late, 17) ^ turned(late, 19) ^ (late >>> 10);
                words[t] = sumLate + words[t - 7] + sumEarly + words[t - 16];
            }
        }

        private static int turned(int word, int by) {
            return (word >>> by) | (word << (32 - by));
        }
    }

    /** ISO/IEC 10118-3, dedicated hash-function 1. */
    private static final class Ripemd160 extends BlockDigest {
        private static final int[] FIRST = {0x67452301, 0xefcdab89, 0x98badcfe, 0x10325476, 0xc3d2e1f0};
        private static final int[] LEFT_ADDED = {0x00000000, 0x5a827999, 0x6ed9eba1, 0x8f1bbcdc, 0xa953fd4e};
        private static final int[] RIGHT_ADDED = {0x50a28be6, 0x5c4dd124, 0x6d703ef3, 0x7a6d76e9, 0x00000000};
        private static final int[] LEFT_WORD = {
            0, 1, 2, 3, 4, 5, 6, 7, 8, 9, 10, 11, 12, 13, 14, 15,
            7, 4, 13, 1, 10, 6, 15, 3, 12, 0, 9, 5, 2, 14, 11, 8,
            3, 10, 14, 4, 9, 15, 8, 1, 2, 7, 0, 6, 13, 11, 5, 12,
            1, 9, 11, 10, 0, 8, 12, 4, 13, 3, 7, 15, 14, 5, 6, 2,
            4, 0, 5, 9, 7, 12, 2, 10, 14, 1, 3, 8, 11, 6, 15, 13
        };
        private static final int[] RIGHT_WORD = {
            5, 14, 7, 0, 9, 2, 11, 4, 13, 6, 15, 8, 1, 10, 3, 12,
            6, 11, 3, 7, 0, 13, 5, 10, 14, 15, 8, 12, 4, 9, 1, 2,
            15, 5, 1, 3, 7, 14, 6, 9, 11, 8, 12, 2, 10, 0, 4, 13,
            8, 6, 4, 1, 3, 11, 15, 0, 5, 12, 2, 13, 9, 7, 10, 14,
            12, 15, 10, 4, 1, 5, 8, 7, 6, 2, 13, 14, 0, 3, 9, 11
        };
        private static final int[] LEFT_TURN = {
            11, 14, 15, 12, 5, 8, 7, 9, 11, 13, 14, 15, 6, 7, 9, 8,
            7, 6, 8, 13, 11, 9, 7, 15, 7, 12, 15, 9, 11, 7, 13, 12,
            11, 13, 6, 7, 14, 9, 13, 15, 14, 8, 13, 6, 5, 12, 7, 5,
            11, 12, 14, 15, 14, 15, 9, 8, 9, 14, 5, 6, 8, 6, 5, 12,
            9, 15, 5, 11, 6, 8, 13, 12, 5, 12, 13, 14, 11, 8, 5, 6
        };
        private static final int[] RIGHT_TURN = {
            8, 9, 9, 11, 13, 15, 15, 5, 7, 7, 8, 11, 14, 14, 12, 6,
            9, 13, 15, 7, 12, 8, 9, 11, 7, 7, 12, 7, 6, 15, 13, 11,
            9, 7, 15, 11, 8, 6, 6, 14, 12, 13, 5, 14, 13, 13, 7, 5,
            15, 5, 8, 11, 14, 14, 6, 14, 6, 9, 12, 9, 12, 5, 15, 8,
            8, 5, 12, 9, 12, 5, 14, 6, 8, 13, 6, 5, 15, 13, 11, 11
        };

        private final int[] left = new int[5];
        private final int[] right = new int[5];

        Ripemd160() {
            super(false, 16, 5);
        }

        @Override
        void begin() {
            System.arraycopy(FIRST, 0, state, 0, 5);
        }

        @Override
        void mix() {
            System.arraycopy(state, 0, left, 0, 5);
            System.arraycopy(state, 0, right, 0, 5);
            for (int j = 0; j < 80; j++) {
                int part = j / 16;
                step(left, part, words[LEFT_WORD[j]] + LEFT_ADDED[part], LEFT_TURN[j]);
                step(right, 4 - part, words[RIGHT_WORD[j]] + RIGHT_ADDED[part], RIGHT_TURN[j]);
            }
            int kept = state[1] + left[2] + right[3];
            state[1] = state[2] + left[3] + right[4];
            state[2] = state[3] + left[4] + right[0];
            state[3] = state[4] + left[0] + right[1];
            state[4] = state[0] + left[1] + right[2];
            state[0] = kept;
        }

        private static void step(int[] line, int kind, int added, int by) {
            int sum = line[0] + blend(kind, line[1], line[2], line[3]) + added;
            int fresh = turned(sum, by) + line[4];
            line[0] = line[4];
            line[4] = line[3];
            line[3] = turned(line[2], 10);
            line[2] = line[1];
            line[1] = fresh;
        }

        private static int blend(int kind, int x, int y, int z) {
            switch (kind) {
                case 0:
                    return x ^ y ^ z;
                case 1:
                    return (x & y) | (~x & z);
                case 2:
                    return (x | ~y) ^ z;
                case 3:
                    return (x & z) | (y & ~z);
                default:
                    return x ^ (y | ~z);
            }
        }

        private static int turned(int word, int by) {
            return (word << by) | (word >>> (32 - by));
        }
    }
}
