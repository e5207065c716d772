import java.util.NoSuchElementException;

public final class MixBench {
    private static final int REGISTERS = 256;
    private static final int SPECIALS = 8;
    private static final int OPS = 256;
    private static final int MEMORY_BYTES = 16384;
    private static final int OUTPUT_LIMIT = 500;
    private static final int MOST_INSTRUCTIONS = 1000;
    private static final int MOST_SPENT = 1000;
    private static final long MARK_FACTOR = 0x9E3779B97F4A7C15L;
    private static final long LOWEST = 0x8000000000000000L;

    private static final int R_D = 1;
    private static final int R_H = 3;
    private static final int R_M = 5;
    private static final int R_R = 6;
    private static final int R_A = 7;

    private static final long OVERFLOW = 64;
    private static final long DIVIDE_CHECK = 128;

    private static final int MORE = 0;
    private static final int HALTED = 1;
    private static final int ILLEGAL = 2;
    private static final int BEYOND = 3;

    private final long[] registers = new long[REGISTERS];
    private final long[] specials = new long[SPECIALS];
    private final long[] tallies = new long[OPS];
    private final byte[] outputBytes = new byte[OUTPUT_LIMIT];
    private final Memory memory = new Memory();
    private int outputLength;
    private int place;
    private long pc;
    private long oops;
    private long mems;
    private long trail;
    private long lastTally;

    public MixBench() {
    }

    public long set(int k, long v) throws NoSuchElementException {
        if (k < 0 || k >= REGISTERS) {
            throw new NoSuchElementException("no such register");
        }
        long old = registers[k];
        registers[k] = v;
        return old;
    }

    public long get(int k) throws NoSuchElementException {
        if (k < 0 || k >= REGISTERS + SPECIALS) {
            throw new NoSuchElementException("no such register");
        }
        return k < REGISTERS ? registers[k] : specials[k - REGISTERS];
    }

    public long poke(int a, long v) throws IndexOutOfBoundsException {
        if (isBeyond(a)) {
            throw new IndexOutOfBoundsException("beyond the memory");
        }
        long old = memory.load(a, 8);
        memory.store(a, 8, v);
        return old;
    }

    public long peek(int a) throws IndexOutOfBoundsException {
        if (isBeyond(a)) {
            throw new IndexOutOfBoundsException("beyond the memory");
        }
        return memory.load(a, 8);
    }

    public int at(int a) throws IndexOutOfBoundsException {
        if (isBeyond(a)) {
            throw new IndexOutOfBoundsException("beyond the memory");
        }
        place = a & ~3;
        return place;
    }

    public int put(int name, int x, int y, int z)
            throws NoSuchElementException, IndexOutOfBoundsException {
        int op = Names.opNamed(name);
        if (op < 0) {
            throw new NoSuchElementException("no such name");
        }
        if (isBeyond(place)) {
            throw new IndexOutOfBoundsException("the place is beyond the memory");
        }
        int word = op << 24 | (x & 255) << 16 | (y & 255) << 8 | z & 255;
        memory.store(place, 4, word);
        place += 4;
        return op;
    }

    public int go(int pc, int n) throws IllegalArgumentException {
        if (n < 1 || n > MOST_INSTRUCTIONS) {
            throw new IllegalArgumentException("not 1 to 1000 instructions");
        }
        if (pc >= 0) {
            this.pc = pc & ~3;
        }
        for (int i = 0; i < n; i++) {
            int end = doNext();
            if (end != MORE) {
                return end;
            }
        }
        return MORE;
    }

    public long mark() {
        long sum = 0;
        for (int k = 0; k < REGISTERS; k++) {
            sum += registers[k] * (2 * k + 1) * MARK_FACTOR;
        }
        return sum;
    }

    public long tally(int op) throws NoSuchElementException {
        if (op < 0 || op >= OPS) {
            throw new NoSuchElementException("no such op");
        }
        return tallies[op];
    }

    public long spend(int n) throws IllegalArgumentException {
        if (n < -MOST_SPENT || n > MOST_SPENT) {
            throw new IllegalArgumentException("not -1000 to 1000 oops");
        }
        oops += n;
        return oops;
    }

    public int output(int i) throws IndexOutOfBoundsException {
        if (i < 0 || i >= outputLength) {
            throw new IndexOutOfBoundsException("no such byte of output");
        }
        return outputBytes[i] & 255;
    }

    public long count(int what) {
        switch (what) {
            case 0: return pc;
            case 1: return oops;
            case 2: return mems;
            case 3: return outputLength;
            case 4: return place;
            case 5: return trail;
            case 6: return lastTally;
            default: return -1;
        }
    }

    private static boolean isBeyond(long a) {
        return a < 0 || a >= MEMORY_BYTES;
    }

    private static int opOf(int word) {
        return word >>> 24;
    }

    private static int byteX(int word) {
        return word >> 16 & 255;
    }

    private static int byteY(int word) {
        return word >> 8 & 255;
    }

    private static int byteZ(int word) {
        return word & 255;
    }

    private static int wydeYZ(int word) {
        return word & 0xFFFF;
    }

    private int doNext() {
        if (isBeyond(pc)) {
            return BEYOND;
        }
        int word = (int) memory.load(pc, 4);
        followFetch(word);
        if (!isLegal(word)) {
            return ILLEGAL;
        }
        long y = registers[byteY(word)];
        long z = operandZ(word);
        boolean usesMemory = isLoadOrStore(opOf(word));
        if (usesMemory && isBeyond(y + z)) {
            return BEYOND;
        }
        bill(opOf(word), usesMemory);
        perform(word, y, z);
        return word == 0 ? HALTED : MORE;
    }

    private void followFetch(int word) {
        trail = 31 * trail + registers[byteY(word)];
        trail = 31 * trail + registers[byteZ(word)];
        trail = 31 * trail + registers[byteX(word)];
    }

    private static boolean isLegal(int word) {
        int op = opOf(word);
        switch (op) {
            case 0x00: return word == 0 || word >> 8 == 1;
            case 0x92: case 0x93: case 0x9E: case 0x9F: return true;
            case 0xB2: case 0xB3: case 0xB4: case 0xB5: return true;
            case 0xF0: case 0xF1: case 0xF4: case 0xF5: case 0xFD: return true;
            case 0xF6: case 0xF7: return byteX(word) < SPECIALS;
            case 0xFE: return byteZ(word) < SPECIALS;
            default: return op >= 0x18 && op < 0x90
                || op >= 0xA0 && op < 0xB0 || op >= 0xC0 && op < 0xF0;
        }
    }

    private static boolean isLoadOrStore(int op) {
        return op >= 0x80 && op < 0xC0 && !isGo(op);
    }

    private static boolean isGo(int op) {
        return (op & 0xFE) == 0x9E;
    }

    private long operandZ(int word) {
        int op = opOf(word);
        boolean isNumber = (op & 1) == 1 && op < 0xE0 || op == 0xF7;
        return isNumber ? byteZ(word) : registers[byteZ(word)];
    }

    private void bill(int op, boolean usesMemory) {
        tallies[op]++;
        lastTally = tallies[op];
        oops += leastOops(op);
        if (usesMemory) {
            mems++;
        }
    }

    private static int leastOops(int op) {
        switch (op) {
            case 0x00: return 5;
            case 0x18: case 0x19: case 0x1A: case 0x1B: return 10;
            case 0x1C: case 0x1D: case 0x1E: case 0x1F: return 60;
            case 0x9E: case 0x9F: return 3;
            default: return 1;
        }
    }

    private void perform(int word, long y, long z) {
        int op = opOf(word);
        long here = pc;
        pc = here + 4;
        switch (op >> 4) {
            case 0x0: trap(word, here); break;
            case 0x1: writeX(word, productOrQuotient(op, y, z)); break;
            case 0x2: writeX(word, sumOrDifference(op, y, z)); break;
            case 0x3: writeX(word, comparedOrShifted(word, y, z)); break;
            case 0x4: case 0x5: branch(word, here); break;
            case 0x6: case 0x7: choose(word, y, z); break;
            case 0x8: case 0x9: loadOrGo(word, y + z, here); break;
            case 0xA: case 0xB: storeX(word, y + z); break;
            case 0xC: writeX(word, Numbers.bitwise(op, y, z)); break;
            case 0xD: writeX(word, bytewise(op, y, z)); break;
            case 0xE: writeX(word, withWyde(word)); break;
            default: performRest(word, z, here);
        }
    }

    private void writeX(int word, long value) {
        int k = byteX(word);
        trail = 37 * trail + registers[k];
        registers[k] = value;
    }

    private void trap(int word, long here) {
        if (word == 0) {
            pc = here;
        } else if (outputLength < OUTPUT_LIMIT) {
            outputBytes[outputLength] = (byte) registers[byteZ(word)];
            outputLength++;
        }
    }

    private void raise(long event, boolean happened) {
        if (happened) {
            specials[R_A] |= event;
        }
    }

    private long productOrQuotient(int op, long y, long z) {
        switch (op & 0xFE) {
            case 0x18:
                raise(OVERFLOW, Numbers.highOfSignedProduct(y, z) != y * z >> 63);
                return y * z;
            case 0x1A:
                specials[R_H] = Numbers.highOfProduct(y, z);
                return y * z;
            case 0x1C:
                return quotient(y, z);
            default:
                return longQuotient(specials[R_D], y, z);
        }
    }

    private long quotient(long y, long z) {
        if (z == 0) {
            raise(DIVIDE_CHECK, true);
            specials[R_R] = y;
            return 0;
        }
        raise(OVERFLOW, y == LOWEST && z == -1);
        long x = Math.floorDiv(y, z);
        specials[R_R] = y - z * x;
        return x;
    }

    /** Bit by bit, for the number that is divided has 128 bits. */
    private long longQuotient(long high, long low, long divisor) {
        if (!Numbers.isAbove(divisor, high)) {
            specials[R_R] = low;
            return high;
        }
        long rest = high;
        long quotient = 0;
        for (int i = 63; i >= 0; i--) {
            boolean carry = rest < 0;
            rest = rest << 1 | low >>> i & 1;
            quotient <<= 1;
            if (carry || !Numbers.isAbove(divisor, rest)) {
                rest -= divisor;
                quotient |= 1;
            }
        }
        specials[R_R] = rest;
        return quotient;
    }

    private long sumOrDifference(int op, long y, long z) {
        switch (op & 0xFE) {
            case 0x20: return checkedSum(y, z);
            case 0x22: return y + z;
            case 0x24: return checkedDifference(y, z);
            case 0x26: return y - z;
            case 0x28: return (y << 1) + z;
            case 0x2A: return (y << 2) + z;
            case 0x2C: return (y << 3) + z;
            default: return (y << 4) + z;
        }
    }

    private long checkedSum(long y, long z) {
        long x = y + z;
        raise(OVERFLOW, ((x ^ y) & (x ^ z)) < 0);
        return x;
    }

    private long checkedDifference(long y, long z) {
        long x = y - z;
        raise(OVERFLOW, ((y ^ z) & (y ^ x)) < 0);
        return x;
    }

    private long comparedOrShifted(int word, long y, long z) {
        switch (opOf(word) & 0xFE) {
            case 0x30: return y < z ? -1 : y > z ? 1 : 0;
            case 0x32: return Numbers.isAbove(z, y) ? -1 : Numbers.isAbove(y, z) ? 1 : 0;
            case 0x34: return checkedDifference(byteY(word), z);
            case 0x36: return byteY(word) - z;
            case 0x38: return checkedShift(y, z);
            case 0x3A: return Numbers.shiftLeft(y, z);
            case 0x3C: return Numbers.shiftRight(y, z);
            default: return Numbers.shiftRightUnsigned(y, z);
        }
    }

    private long checkedShift(long y, long z) {
        long x = Numbers.shiftLeft(y, z);
        raise(OVERFLOW, Numbers.shiftRight(x, z) != y);
        return x;
    }

    private static boolean holds(int op, long v) {
        switch (op >> 1 & 7) {
            case 0: return v < 0;
            case 1: return v == 0;
            case 2: return v > 0;
            case 3: return (v & 1) == 1;
            case 4: return v >= 0;
            case 5: return v != 0;
            case 6: return v <= 0;
            default: return (v & 1) == 0;
        }
    }

    private void branch(int word, long here) {
        int op = opOf(word);
        boolean jumps = holds(op, registers[byteX(word)]);
        boolean isProbable = op >= 0x50;
        if (jumps != isProbable) {
            oops += 2;
        }
        if (jumps) {
            pc = relative(word, here);
        }
    }

    private static long relative(int word, long here) {
        boolean isBackward = (opOf(word) & 1) == 1;
        return here + 4L * (isBackward ? wydeYZ(word) - 0x10000 : wydeYZ(word));
    }

    private void choose(int word, long y, long z) {
        boolean isZeroElse = opOf(word) >= 0x70;
        if (holds(opOf(word), y)) {
            writeX(word, z);
        } else if (isZeroElse) {
            writeX(word, 0);
        }
    }

    private static int sizeOf(int op) {
        return 1 << (op >> 2 & 3);
    }

    private static boolean isUnsigned(int op) {
        return (op & 2) != 0;
    }

    private void loadOrGo(int word, long a, long here) {
        int op = opOf(word);
        if (isGo(op)) {
            writeX(word, here + 4);
            pc = a & ~3L;
        } else if (op >= 0x90) {
            writeX(word, memory.load(a, 4) << 32);
        } else {
            long loaded = memory.load(a, sizeOf(op));
            writeX(word, isUnsigned(op) ? loaded : Numbers.signed(loaded, sizeOf(op)));
        }
    }

    private void storeX(int word, long a) {
        int op = opOf(word);
        long x = registers[byteX(word)];
        if (op >= 0xB4) {
            memory.store(a, 8, byteX(word));
        } else if (op >= 0xB0) {
            memory.store(a, 4, x >>> 32);
        } else {
            raise(OVERFLOW, !isUnsigned(op) && Numbers.signed(x, sizeOf(op)) != x);
            memory.store(a, sizeOf(op), x);
        }
    }

    private long bytewise(int op, long y, long z) {
        switch (op & 0xFE) {
            case 0xD0: return Numbers.differences(y, z, 8);
            case 0xD2: return Numbers.differences(y, z, 16);
            case 0xD4: return Numbers.differences(y, z, 32);
            case 0xD6: return Numbers.differences(y, z, 64);
            case 0xD8: return y & specials[R_M] | z & ~specials[R_M];
            case 0xDA: return Long.bitCount(y & ~z);
            case 0xDC: return Numbers.matrixProduct(y, z, false);
            default: return Numbers.matrixProduct(y, z, true);
        }
    }

    private long withWyde(int word) {
        int op = opOf(word);
        long x = registers[byteX(word)];
        long wyde = (long) wydeYZ(word) << 48 - 16 * (op & 3);
        switch (op >> 2 & 3) {
            case 0: return wyde;
            case 1: return x + wyde;
            case 2: return x | wyde;
            default: return x & ~wyde;
        }
    }

    private void performRest(int word, long z, long here) {
        int xyz = word & 0xFFFFFF;
        switch (opOf(word)) {
            case 0xF0: pc = here + 4L * xyz; break;
            case 0xF1: pc = here + 4L * (xyz - 0x1000000); break;
            case 0xF4: case 0xF5: writeX(word, relative(word, here)); break;
            case 0xF6: case 0xF7: specials[byteX(word) & (SPECIALS - 1)] = z; break;
            case 0xFE: writeX(word, specials[byteZ(word) & (SPECIALS - 1)]); break;
            default: break;
        }
    }

    /** The bytes of the memory, kept by eights, so that an object stays small. */
    private static final class Memory {
        private final long[] octas = new long[MEMORY_BYTES / 8];

        private static int octaOf(long a) {
            return (int) (a >> 3) & (MEMORY_BYTES / 8 - 1);
        }

        private static int shiftOf(long a, int size) {
            int room = 8 - size;
            return 8 * (room - (int) (a & room));
        }

        private static long maskOf(int size) {
            return -1L >>> 64 - 8 * size;
        }

        private long load(long a, int size) {
            return octas[octaOf(a)] >>> shiftOf(a, size) & maskOf(size);
        }

        private void store(long a, int size, long v) {
            int shift = shiftOf(a, size);
            long kept = octas[octaOf(a)] & ~(maskOf(size) << shift);
            octas[octaOf(a)] = kept | (v & maskOf(size)) << shift;
        }
    }

    /** What the instructions reckon without a look at the machine. */
    private static final class Numbers {
        private static final long ONE_IN_EACH_BYTE = 0x0101010101010101L;

        private static boolean isAbove(long a, long b) {
            return a + LOWEST > b + LOWEST;
        }

        private static long highOfProduct(long a, long b) {
            long lowA = a & 0xFFFFFFFFL;
            long lowB = b & 0xFFFFFFFFL;
            long highA = a >>> 32;
            long highB = b >>> 32;
            long middle = highA * lowB + (lowA * lowB >>> 32);
            long otherMiddle = lowA * highB + (middle & 0xFFFFFFFFL);
            return highA * highB + (middle >>> 32) + (otherMiddle >>> 32);
        }

        private static long highOfSignedProduct(long a, long b) {
            return highOfProduct(a, b) - (a < 0 ? b : 0) - (b < 0 ? a : 0);
        }

        /** Java itself looks at the low 6 bits of a shift alone. */
        private static boolean isWholeShift(long z) {
            return z < 0 || z >= 64;
        }

        private static long shiftLeft(long y, long z) {
            return isWholeShift(z) ? 0 : y << z;
        }

        private static long shiftRight(long y, long z) {
            return isWholeShift(z) ? y >> 63 : y >> z;
        }

        private static long shiftRightUnsigned(long y, long z) {
            return isWholeShift(z) ? 0 : y >>> z;
        }

        private static long signed(long v, int size) {
            int above = 64 - 8 * size;
            return v << above >> above;
        }

        private static long bitwise(int op, long y, long z) {
            switch (op & 0xFE) {
                case 0xC0: return y | z;
                case 0xC2: return y | ~z;
                case 0xC4: return ~(y | z);
                case 0xC6: return y ^ z;
                case 0xC8: return y & z;
                case 0xCA: return y & ~z;
                case 0xCC: return ~(y & z);
                default: return ~(y ^ z);
            }
        }

        private static long differences(long y, long z, int width) {
            long mask = -1L >>> 64 - width;
            long x = 0;
            for (int shift = 0; shift < 64; shift += width) {
                long a = y >>> shift & mask;
                long b = z >>> shift & mask;
                if (isAbove(a, b)) {
                    x |= a - b << shift;
                }
            }
            return x;
        }

        private static long matrixProduct(long y, long z, boolean isExclusive) {
            long x = 0;
            for (int j = 0; j < 8; j++) {
                long chosen = z >>> 7 - j & ONE_IN_EACH_BYTE;
                long row = chosen * (y >>> 56 - 8 * j & 255);
                x = isExclusive ? x ^ row : x | row;
            }
            return x;
        }
    }

    /**
     * The assembler's names. A name's place in its row tells its OP, and a dash
     * stands where a row has none. A name of OTHERS means the one of MEANT below it.
     */
    private static final class Names {
        private static final String PAIRS_18 =
            "MUL MULU DIV DIVU ADD ADDU SUB SUBU DADDU QADDU OADDU HADDU";
        private static final String PAIRS_30 = "CMP CMPU NEG NEGU SL SLU SR SRU";
        private static final String PAIRS_40 =
            "BN BZ BP BOD BNN BNZ BNP BEV PBN PBZ PBP PBOD PBNN PBNZ PBNP PBEV";
        private static final String PAIRS_40_TOO =
            "BLT BEQ BGT - BGE BNE BLE - PBLT PBEQ PBGT - PBGE PBNE PBLE -";
        private static final String PAIRS_60 =
            "CSN CSZ CSP CSOD CSNN CSNZ CSNP CSEV ZSN ZSZ ZSP ZSOD ZSNN ZSNZ ZSNP ZSEV";
        private static final String PAIRS_60_TOO =
            "CSLT CSEQ CSGT - CSGE CSNE CSLE - ZSLT ZSEQ ZSGT - ZSGE ZSNE ZSLE -";
        private static final String PAIRS_80 =
            "LDB LDBU LDW LDWU LDT LDTU LDO LDOU - LDHT - - - - - GO";
        private static final String PAIRS_80_TOO = "LB LBU LW LWU LT LTU LO LOU";
        private static final String PAIRS_A0 =
            "STB STBU STW STWU STT STTU STO STOU - STHT STCO";
        private static final String PAIRS_A0_TOO = "SB - SW - ST - SO";
        private static final String PAIRS_C0 =
            "OR ORN NOR XOR AND ANDN NAND NXOR BDIF WDIF TDIF ODIF MUX SADD MOR MXOR";
        private static final String PAIR_OTHERS =
            "LDA INC PLUS MINUS DEC TIMES QUOT COMP SHL SHLU SHR SHRU MOVE EOR BIC BITS PICK JUMP";
        private static final String PAIR_MEANT =
            "ADDU ADDU ADD SUB SUBU MUL DIV CMP SL SLU SR SRU OR XOR ANDN SADD MUX GO";

        private static final String SINGLES_00 = "TRAP";
        private static final String SINGLES_E0 =
            "SETH SETMH SETML SETL INCH INCMH INCML INCL ORH ORMH ORML ORL ANDNH ANDNMH ANDNML ANDNL";
        private static final String SINGLES_F0 =
            "JMP JMPB - - GETA GETAB PUT PUTI - - - - - SWYM GET";
        private static final String SINGLE_OTHERS = "NOP HALT BACK LI LIH LIMH LIML";
        private static final String SINGLE_MEANT = "SWYM TRAP JMPB SETL SETH SETMH SETML";

        private static final int BASE = 27;
        private static final int LETTER_B = 2;
        private static final int LETTER_I = 9;
        private static final char BEFORE_A = '@';

        /** The OP, or -1 if no name has that number. */
        private static int opNamed(int name) {
            if (name <= 0) {
                return -1;
            }
            int op = singleNamed(name);
            if (op < 0) {
                op = evenNamed(name);
            }
            return op < 0 ? oddNamed(name) : op;
        }

        private static int singleNamed(int name) {
            int meant = meantBy(name, SINGLE_OTHERS, SINGLE_MEANT);
            int op = opInRow(SINGLES_00, 0x00, 1, meant);
            op = op >= 0 ? op : opInRow(SINGLES_E0, 0xE0, 1, meant);
            return op >= 0 ? op : opInRow(SINGLES_F0, 0xF0, 1, meant);
        }

        private static int evenNamed(int name) {
            int meant = meantBy(name, PAIR_OTHERS, PAIR_MEANT);
            int op = opInRow(PAIRS_18, 0x18, 2, meant);
            op = op >= 0 ? op : opInRow(PAIRS_30, 0x30, 2, meant);
            op = op >= 0 ? op : opInRow(PAIRS_40, 0x40, 2, meant);
            op = op >= 0 ? op : opInRow(PAIRS_40_TOO, 0x40, 2, meant);
            op = op >= 0 ? op : opInRow(PAIRS_60, 0x60, 2, meant);
            op = op >= 0 ? op : opInRow(PAIRS_60_TOO, 0x60, 2, meant);
            op = op >= 0 ? op : opInRow(PAIRS_80, 0x80, 2, meant);
            op = op >= 0 ? op : opInRow(PAIRS_80_TOO, 0x80, 2, meant);
            op = op >= 0 ? op : opInRow(PAIRS_A0, 0xA0, 2, meant);
            op = op >= 0 ? op : opInRow(PAIRS_A0_TOO, 0xA0, 2, meant);
            return op >= 0 ? op : opInRow(PAIRS_C0, 0xC0, 2, meant);
        }

        private static int oddNamed(int name) {
            int even = evenNamed(name / BASE);
            boolean isBranch = even >= 0x40 && even < 0x60;
            int ending = isBranch ? LETTER_B : LETTER_I;
            return even >= 0 && name % BASE == ending ? even + 1 : -1;
        }

        private static int meantBy(int name, String others, String meant) {
            int place = placeOf(name, others);
            return place < 0 ? name : nameAt(place, meant);
        }

        private static int opInRow(String row, int first, int step, int name) {
            int place = placeOf(name, row);
            return place < 0 ? -1 : first + step * place;
        }

        private static int placeOf(int name, String row) {
            int place = 0;
            int number = 0;
            for (int i = 0; i < row.length(); i++) {
                char c = row.charAt(i);
                if (c != ' ') {
                    number = BASE * number + c - BEFORE_A;
                } else if (number == name) {
                    return place;
                } else {
                    place++;
                    number = 0;
                }
            }
            return number == name ? place : -1;
        }

        private static int nameAt(int place, String row) {
            int passed = 0;
            int number = 0;
            for (int i = 0; i < row.length() && passed <= place; i++) {
                char c = row.charAt(i);
                if (c == ' ') {
                    passed++;
                } else if (passed == place) {
                    number = BASE * number + c - BEFORE_A;
                }
            }
            return number;
        }
    }
}
