/** Each bound that "Terms" names for the MEMORY, the PC, the OUTPUT, the TIME, TALLY and TRAIL. */
public final class MachineBoundsTest extends Trial {
    private static final int[] LOADS = {0x80, 0x82, 0x84, 0x86, 0x88, 0x8A, 0x8C, 0x8E, 0x92};
    private static final int[] STORES = {0xA0, 0xA2, 0xA4, 0xA6, 0xA8, 0xAA, 0xAC, 0xAE, 0xB2, 0xB4};
    private static final long TWO_32 = 1L << 32;
    private static final String TRAIL = "count(5)";

    private static int sizeOf(int op) {
        return op == 0x92 || op == 0xB2 ? 4 : op == 0xB4 ? 8 : 1 << (op >> 2 & 3);
    }

    private static long withSign(long v, int size) {
        return size == 1 ? (byte) v : size == 2 ? (short) v : size == 4 ? (int) v : v;
    }

    private static String hex(int op) {
        return "OP " + Integer.toHexString(op);
    }

    /** OP 1,2,3 at HERE, with y and z, on a machine whose register 1 is x. */
    private static MixBench machine(int op, long x, long y, long z) {
        MixBench m = new MixBench();
        m.set(1, x);
        m.set(2, y);
        m.set(3, z);
        m.set(4, 0x123456789ABCDEF0L);
        m.set(5, -2);
        Check.putBytes(m, HERE, op, 1, 2, 3);
        return m;
    }

    /** So many of 8 bytes as one number, the highest first. */
    private static long bytesAt(int[] bytes, int a, int size) {
        long value = 0;
        for (int i = a - a % size; i < a - a % size + size; i++) {
            value = value << 8 | bytes[i];
        }
        return value;
    }

    /** "M1, M2, M4, M8[a]: the bytes at a without its low 0, 1, 2, 3 bits, the highest first; a is 0 .. 16,383." */
    private static void loads() {
        int[] bytes = {0x81, 0x02, 0x83, 0x04, 0x85, 0x7F, 0x87, 0xFF};
        for (int op : LOADS) {
            int size = sizeOf(op);
            for (int from : new int[] {0, 8, 16376}) {
                for (int a = 0; a < 8; a++) {
                    MixBench m = machine(op, 55, from + a, 0);
                    m.poke(from, bytesAt(bytes, 0, 8));
                    long u = bytesAt(bytes, a, size);
                    long want = op == 0x92 ? u << 32 : (op & 2) == 0 ? withSign(u, size) : u;
                    Check.due(hex(op) + " at " + (from + a) + ": go", m.go(HERE, 1), 0);
                    Check.due(hex(op) + " at " + (from + a), m.get(1), want);
                    Check.due(hex(op) + ": MEMS", m.count(2), 1);
                    Check.putBytes(m, HERE, op + 1, 1, 2, 0);
                    Check.due(hex(op + 1) + " at " + (from + a) + ": go", m.go(HERE, 1), 0);
                    Check.due(hex(op + 1) + " at " + (from + a), m.get(1), want);
                }
            }
        }
    }

    /** The same of what is stored: the low bytes of x, and no byte beside them. */
    private static void stores() {
        for (int op : STORES) {
            for (int from : new int[] {0, 8, 16376}) {
                for (int a = 0; a < 8; a++) {
                    store(op, from, a);
                    store(op + 1, from, a);
                }
            }
        }
    }

    /** Register 1, whose low byte is 247, comes to from + a; STHT has the 0 above it, STCO the number 1. */
    private static void store(int op, int from, int a) {
        int[] bytes = {0x11, 0x22, 0x33, 0x44, 0x55, 0x66, 0x77, 0x88};
        int size = sizeOf(op & 0xFE);
        int[] want = bytes.clone();
        for (int i = 0; i < size; i++) {
            want[a - a % size + i] = i < size - 1 ? 0 : op >= 0xB4 ? 1 : op >= 0xB2 ? 0 : 247;
        }
        String what = hex(op) + " at " + (from + a);
        State.dueChanges(what, m -> {
            m.set(1, 247);
            m.set(2, from + a);
            m.poke(from, bytesAt(bytes, 0, 8));
            Check.putBytes(m, 512, 0xFD, 0, 0, 0);
            Check.putBytes(m, 516, op, 1, 2, 0);
            m.go(512, 1);
        }, m -> {
            m.go(-1, 1);
            Check.due(what, m.peek(from), bytesAt(want, 0, 8));
        }, (op < 0xA2 ? "get(263) " : "") + "tally(" + op + ") peek(" + from + ") count(0) count(1) count(2) count(5)");
    }

    /** "STB, STW, STT, STO = low bytes of x, V if s of them is not s(x); (U): without V." */
    private static void eventsOfStores() {
        for (int op = 0xA0; op < 0xB0; op++) {
            int size = sizeOf(op);
            long most = -1L >>> 65 - 8 * size;
            long[] values = {most, most - 1, most + 1, -most - 1, -most, -most - 2, 0, -1, MIN, MAX, 1L << 32, 256, 255};
            for (long x : values) {
                MixBench m = machine(op, x, 2048 - 3 * (op % 2), 0);
                boolean isLost = withSign(x, size) != x && op % 4 < 2;
                Check.due(hex(op) + " of " + x + ": go", m.go(HERE, 1), 0);
                Check.due(hex(op) + " of " + x + ": rA", m.get(256 + R_A), isLost ? 64 : 0);
                Check.due(hex(op) + " of " + x, m.peek(2048) >>> 64 - 8 * size, x & -1L >>> 64 - 8 * size);
            }
        }
        for (int op : new int[] {0xB2, 0xB3, 0xB4, 0xB5}) {
            MixBench m = machine(op, MIN, 2048, 0);
            m.go(HERE, 1);
            Check.due(hex(op) + " has no V", m.get(256 + R_A), 0);
        }
    }

    /** "STHT M4[a] = u(x) / 2^32; STCO M8[a] = X (the number); LDHT x = M4[a] * 2^32." */
    private static void highAndConstant() {
        long[][] highs = {{0, 0}, {-1, 0xFFFFFFFFL}, {MIN, 0x80000000L}, {TWO_32, 1}, {TWO_32 - 1, 0}, {MAX, 0x7FFFFFFFL}};
        for (long[] high : highs) {
            MixBench m = machine(0xB2, high[0], 2048, 0);
            m.go(HERE, 1);
            Check.due("STHT of " + high[0], m.peek(2048), high[1] << 32);
            Check.putBytes(m, HERE, 0x92, 1, 2, 3);
            m.go(HERE, 1);
            Check.due("LDHT of " + high[1], m.get(1), high[1] << 32);
        }
        for (int x : new int[] {0, 1, 127, 128, 255}) {
            MixBench m = new MixBench();
            m.set(x, -77);
            m.poke(2048, -1);
            m.set(6, 2048);
            Check.putBytes(m, HERE, 0xB5, x, 6, 7);
            m.go(HERE, 1);
            Check.due("STCO " + x, m.peek(2048), x);
        }
    }

    private static void memoryAt(int op, long y, long z, boolean isThere) {
        String what = hex(op) + " at " + y + " + " + z;
        if (isThere) {
            MixBench m = machine(op, 300, y, z);
            Check.due(what + ": go", m.go(HERE, 1), 0);
            Check.due(what + ": PC", m.count(0), HERE + 4);
            Check.due(what + ": MEMS", m.count(2), 1);
            Check.due(what + ": TALLY", m.tally(op), 1);
        } else {
            notDone(what, op, y, z, 3);
        }
    }

    /** All but TRAIL is as it was, PC too. */
    private static void notDone(String what, int op, long y, long z, int end) {
        State.Story before = m -> {
            m.set(1, 300);
            m.set(2, y);
            m.set(3, z);
            m.poke(0, -1);
            m.poke(16376, -1);
            Check.putBytes(m, HERE - 4, 0xFD, 0, 0, 0);
            Check.putBytes(m, HERE, op, 1, 2, 3);
            m.go(HERE - 4, 1);
        };
        MixBench m = new MixBench();
        before.tell(m);
        Check.due(what + ": go", m.go(-1, 1000), end);
        Check.due(what + ": TRAIL", m.count(5), (y * 31 + z) * 31 + 300);
        State.dueChanges(what, before, other -> other.go(-1, 1000), TRAIL);
    }

    /** "a (64 bits) is 0 .. 16,383, else BEYOND": y + z wraps around first. */
    private static void beyond() {
        long[][] there = {{0, 0}, {16383, 0}, {0, 16383}, {16384, -1}, {-1, 1}, {-1, 16384}, {MIN, MIN}, {MAX, MIN + 1},
            {MIN, MIN + 16383}, {-16384, 16384 + 16383}};
        long[][] not = {{-1, 0}, {0, -1}, {16384, 0}, {0, 16384}, {16383, 1}, {-1, 16385}, {MIN, 0}, {MAX, 0}, {MAX, 1},
            {MAX, MAX}, {TWO_32, 0}, {TWO_32, 16383}, {-TWO_32, 0}, {MIN, MIN + 16384}, {65536, 0}, {-16384, 0}};
        for (int op = 0x80; op < 0xB6; op++) {
            boolean isEvenMemory = op < 0x90 || op == 0x92 || op >= 0xA0 && op != 0xB0;
            if (op % 2 == 0 && isEvenMemory) {
                for (long[] a : there) {
                    memoryAt(op, a[0], a[1], true);
                }
                for (long[] a : not) {
                    memoryAt(op, a[0], a[1], false);
                }
                memoryAt(op + 1, 16380, MIN, true);
                memoryAt(op + 1, -3, MIN, true);
                memoryAt(op + 1, 16381, MIN, false);
                memoryAt(op + 1, -4, MIN, false);
            }
        }
        for (int z : new int[] {0, 255}) {
            MixBench m = new MixBench();
            m.set(2, 16383 - z);
            Check.putBytes(m, HERE, 0x81, 1, 2, z);
            Check.due("LDBI to 16,383 by the number " + z, m.go(HERE, 1), 0);
            m.set(2, 16384 - z);
            Check.due("LDBI to 16,384 by the number " + z, m.go(HERE, 1), 3);
            m.set(2, -z);
            Check.due("LDBI to 0 by the number " + z, m.go(HERE, 1), 0);
            m.set(2, -1 - z);
            Check.due("LDBI to -1 by the number " + z, m.go(HERE, 1), 3);
        }
    }

    /** "Nothing of an INSTRUCTION is done .. whose M is BEYOND (also M4[PC]); PC stays there": not even TRAIL comes. */
    private static void noInstruction() {
        long[] places = {16384, 16388, TWO_32, TWO_32 + HERE, MIN, MAX - 3, -4, -16384};
        for (long place : places) {
            State.Story before = m -> {
                m.set(0, 7);
                m.set(2, place);
                Check.putBytes(m, HERE, 0x9F, 1, 2, 0);
                m.go(HERE, 1);
            };
            MixBench m = new MixBench();
            before.tell(m);
            Check.due("PC " + place, m.count(0), place);
            Check.due("go(-1, 1) at PC " + place, m.go(-1, 1), 3);
            State.dueChanges("PC " + place, before, other -> other.go(-1, 1000), "");
        }
    }

    private static boolean isKnown(int op) {
        int[] legal = {0x18, 0x8F, 0x92, 0x93, 0x9E, 0x9F, 0xA0, 0xAF, 0xB2, 0xB5, 0xC0, 0xF1, 0xF4, 0xF7, 0xFD, 0xFE};
        for (int i = 0; i < legal.length; i += 2) {
            if (op >= legal[i] && op <= legal[i + 1]) {
                return true;
            }
        }
        return false;
    }

    /** "Else ILLEGAL, as are all other OPs": 01 .. 17, 90, 91, 94 .. 9D, B0, B1, B6 .. BF, F2, F3, F8 .. FC, FF. */
    private static void illegal() {
        int known = 0;
        for (int op = 1; op < 256; op++) {
            if (isKnown(op)) {
                known++;
                Check.due(hex(op), machine(op, 300, 0, 0).go(HERE, 1), 0);
            } else {
                notDone(hex(op), op, 5, 6, 2);
            }
        }
        Check.due("the OPs that are done beside TRAP", known, 0x78 + 2 + 2 + 16 + 4 + 50 + 4 + 2);
    }

    /** "F6, F7 with X above 7, FE with Z above 7" are ILLEGAL. */
    private static void specials() {
        for (int k : new int[] {0, 7, 8, 9, 15, 127, 128, 255}) {
            int[][] words = {{0xF6, k, 200, 1}, {0xF7, k, 200, 77}, {0xFE, 2, 200, k}};
            for (int[] word : words) {
                State.Story before = m -> {
                    m.set(1, 77);
                    Check.putBytes(m, HERE, 0xF7, 7, 0, 77);
                    Check.putBytes(m, HERE + 4, 0xF7, 0, 0, 77);
                    Check.putBytes(m, HERE + 8, word[0], word[1], word[2], word[3]);
                    m.go(HERE, 2);
                    m.set(k, 55);
                };
                MixBench m = new MixBench();
                before.tell(m);
                String what = hex(word[0]) + " " + word[1] + "," + word[2] + "," + word[3];
                Check.due(what, m.go(-1, 1), k <= 7 ? 0 : 2);
                if (k <= 7) {
                    Check.due(what + ": done", m.tally(word[0]), word[0] == 0xF7 ? 3 : 1);
                    Check.due(what + ": what is there", word[0] == 0xFE ? m.get(2) : m.get(256 + k), 77);
                } else {
                    State.dueChanges(what, before, other -> other.go(-1, 1), TRAIL);
                }
            }
        }
    }

    /** "SPECIALS .. all of 64 bits", by PUT and GET; PUT writes no register and GET no SPECIAL. */
    private static void wholeSpecials() {
        for (int k = 0; k < 8; k++) {
            for (long v : new long[] {MIN, MAX, -1, 0}) {
                MixBench m = new MixBench();
                m.set(3, v);
                Check.putBytes(m, HERE, 0xF6, k, 1, 3);
                Check.putBytes(m, HERE + 4, 0xFE, 4, 1, k);
                Check.due("PUT and GET of SPECIAL " + k, m.go(HERE, 2), 0);
                Check.due("SPECIAL " + k, m.get(256 + k), v);
                Check.due("register 4", m.get(4), v);
            }
        }
        State.dueChanges("PUT 3", m -> m.set(3, MIN), m -> {
            Check.putBytes(m, HERE, 0xF6, 3, 1, 9);
            m.set(9, 5);
            m.go(HERE, 1);
        }, "get(9) get(259) tally(246) peek(1024) count(0) count(1) count(5) count(6)");
    }

    /** "TRAP: X, Y, Z 0: HALT; X 0 and Y 1: the low byte of register Z comes to the OUTPUT; else ILLEGAL." */
    private static void traps() {
        int[] ends = {0, 1, 2, 7, 127, 128, 255};
        for (int x : ends) {
            for (int y : ends) {
                for (int z : ends) {
                    boolean isHalt = x + y + z == 0;
                    boolean isOutput = x == 0 && y == 1;
                    State.Story before = m -> {
                        m.set(z, -2);
                        Check.putBytes(m, HERE - 4, 0xFD, 3, 3, 3);
                        Check.putBytes(m, HERE, 0, x, y, z);
                        m.go(HERE - 4, 1);
                    };
                    MixBench m = new MixBench();
                    before.tell(m);
                    String what = "TRAP " + x + "," + y + "," + z;
                    Check.due(what, m.go(-1, 1), isHalt ? 1 : isOutput ? 0 : 2);
                    Check.due(what + ": PC", m.count(0), isOutput ? HERE + 4 : HERE);
                    Check.due(what + ": OUTPUT", m.count(3), isOutput ? 1 : 0);
                    Check.due(what + ": TALLY", m.tally(0), isHalt || isOutput ? 1 : 0);
                    Check.due(what + ": OOPS", m.count(1), isHalt || isOutput ? 6 : 1);
                    if (isOutput) {
                        Check.due(what + ": output(0)", m.output(0), 254);
                    }
                }
            }
        }
        State.dueChanges("HALT", m -> m.set(0, 3), m -> m.go(0, 9), "tally(0) count(1) count(5) count(6)");
        State.dueChanges("TRAP 0,2,0", m -> Check.putBytes(m, 0, 0, 0, 2, 0), m -> m.go(0, 9), "");
        for (long v : new long[] {0, 127, 128, 255, 256, -1, -256, MIN, MAX}) {
            MixBench m = new MixBench();
            m.set(255, v);
            Check.putBytes(m, 0, 0, 0, 1, 255);
            m.go(0, 1);
            Check.due("the low byte of " + v, m.output(0), v & 255);
        }
    }

    private static void branch(int op, long x, int yz, long pc, int oops) {
        MixBench m = new MixBench();
        m.set(1, x);
        Check.putBytes(m, HERE, op, 1, yz >> 8, yz);
        String what = hex(op) + " on " + x + " with YZ " + yz;
        Check.due(what + ": go", m.go(HERE, 1), 0);
        Check.due(what + ": PC", m.count(0), pc);
        Check.due(what + ": OOPS", m.count(1), oops);
        Check.due(what + ": register X", m.get(1), x);
    }

    /** "If c of x: PC is 4 * YZ more, odd OP: 4 * (65,536 - YZ) less": YZ 0, 1, 65,534, 65,535. */
    private static void branches() {
        long[] yes = {-1, 0, 1, 1, 0, 1, 0, 0};
        long[] no = {0, 1, 0, 0, -1, 0, 1, 1};
        int[] ends = {0, 1, 255, 256, 32767, 32768, 65534, 65535};
        for (int c = 0; c < 8; c++) {
            for (int p = 0; p < 2; p++) {
                int op = 0x40 + 16 * p + 2 * c;
                for (int yz : ends) {
                    branch(op, yes[c], yz, HERE + 4L * yz, p == 0 ? 3 : 1);
                    branch(op + 1, yes[c], yz, HERE - 4L * (65536 - yz), p == 0 ? 3 : 1);
                    branch(op, no[c], yz, HERE + 4, p == 0 ? 1 : 3);
                    branch(op + 1, no[c], yz, HERE + 4, p == 0 ? 1 : 3);
                }
            }
        }
    }

    /** "JMP PC is 4 * XYZ more, F1: 4 * (2^24 - XYZ) less; GETA x = PC + 4 * YZ; F5: PC - 4 * (65,536 - YZ)." */
    private static void jumpsAndAddresses() {
        for (int xyz : new int[] {0, 1, 255, 256, 65535, 65536, 0x7FFFFF, 0x800000, 0xFFFFFE, 0xFFFFFF}) {
            for (int op = 0xF0; op < 0xF2; op++) {
                MixBench m = new MixBench();
                Check.putBytes(m, HERE, op, xyz >> 16, xyz >> 8, xyz);
                Check.due("a jump is done", m.go(HERE, 1), 0);
                Check.due(hex(op) + " with XYZ " + xyz, m.count(0),
                    op == 0xF0 ? HERE + 4L * xyz : HERE - 4L * (16777216 - xyz));
                Check.due(hex(op) + ": OOPS", m.count(1), 1);
            }
        }
        for (int yz : new int[] {0, 1, 32767, 32768, 65534, 65535}) {
            MixBench m = new MixBench();
            Check.putBytes(m, HERE, 0xF4, 1, yz >> 8, yz);
            Check.putBytes(m, HERE + 4, 0xF5, 2, yz >> 8, yz);
            Check.due("addresses are got", m.go(HERE, 2), 0);
            Check.due("GETA with YZ " + yz, m.get(1), HERE + 4L * yz);
            Check.due("GETAB with YZ " + yz, m.get(2), HERE + 4 - 4L * (65536 - yz));
            Check.due("the PC behind them", m.count(0), HERE + 8);
        }
    }

    /** "GO x = PC + 4, PC = a without its low 2 bits": a may be anything; what is fetched there is BEYOND then. */
    private static void goes() {
        long[][] places = {{0, 0}, {1, 0}, {3, 0}, {4, 4}, {16383, 16380}, {16384, 16384}, {-1, -4}, {-4, -4}, {MIN, MIN},
            {MAX, MAX - 3}, {TWO_32 + 2, TWO_32}};
        for (long[] place : places) {
            MixBench m = machine(0x9E, 300, place[0] - 10, 10);
            Check.due("GO to " + place[0], m.go(HERE, 1), 0);
            Check.due("PC of GO to " + place[0], m.count(0), place[1]);
            Check.due("x of GO", m.get(1), HERE + 4);
            Check.due("OOPS of GO", m.count(1), 3);
            Check.due("MEMS of GO", m.count(2), 0);
        }
        MixBench m = new MixBench();
        m.set(2, 16384 - 255);
        Check.putBytes(m, 16380, 0x9F, 2, 2, 255);
        Check.due("GO from the last place to behind it", m.go(16380, 2), 3);
        Check.due("its x", m.get(2), 16384);
        Check.due("its PC", m.count(0), 16384);
    }

    /** "OOPS: 1; MUL, MULU 10; DIV, DIVU 60; GO 3; TRAP 5; .. MEMS: 1 for each LD.., ST..." */
    private static void times() {
        for (int op = 0; op < 256; op++) {
            if (op == 0 || isKnown(op)) {
                MixBench m = new MixBench();
                m.set(1, 2);
                int z = op == 0 ? 0 : 3;
                Check.putBytes(m, HERE, op, op == 0 ? 0 : 1, op == 0 ? 0 : 2, z);
                m.go(HERE, 1);
                int c = op / 2 % 8;
                boolean jumps = c == 2 || c == 4 || c == 5 || c == 7;
                int oops = op == 0 ? 5 : op < 0x1C ? 10 : op < 0x20 ? 60 : op / 2 == 0x4F ? 3
                    : op >= 0x40 && op < 0x50 && jumps || op >= 0x50 && op < 0x60 && !jumps ? 3 : 1;
                boolean uses = op >= 0x80 && op < 0xC0 && op / 2 != 0x4F;
                Check.due(hex(op) + ": OOPS", m.count(1), oops);
                Check.due(hex(op) + ": MEMS", m.count(2), uses ? 1 : 0);
                Check.due(hex(op) + ": TALLY", m.tally(op), 1);
                Check.due(hex(op) + ": count(6)", m.count(6), 1);
            }
        }
    }

    /** "It becomes 31 * TRAIL + each; when register X is written, 37 * TRAIL + what it was", modulo 2^64. */
    private static void trails() {
        for (int op = 0; op < 256; op++) {
            MixBench m = machine(op, 11, 16, 24);
            int x = op == 0 ? 0 : 1;
            Check.putBytes(m, HERE, op, x, op == 0 ? 1 : 2, op == 0xFE ? 5 : 3);
            long y = op == 0 ? 11 : 16;
            long z = op == 0xFE ? -2 : 24;
            m.go(HERE, 1);
            long trail = (y * 31 + z) * 31 + (op == 0 ? 0 : 11);
            boolean writes = op >= 0x18 && op < 0x40 || op >= 0x70 && op < 0xA0 || op >= 0xC0 && op < 0xF0
                || op == 0xF4 || op == 0xF5 || op == 0xFE || op >= 0x60 && op < 0x70 && conditionOf16(op);
            Check.due(hex(op) + ": TRAIL", m.count(5), isKnown(op) && writes ? 37 * trail + 11 : trail);
        }
        MixBench m = new MixBench();
        m.set(0, MIN);
        m.set(1, MAX);
        m.set(2, -1);
        Check.putBytes(m, 0, 0x22, 0, 1, 2);
        m.go(0, 1);
        long trail = ((MAX * 31 - 1) * 31 + MIN) * 37 + MIN;
        Check.due("TRAIL wraps around", m.count(5), trail);
        m.set(0, 1);
        m.go(0, 1);
        trail = (((trail * 31 + MAX) * 31 - 1) * 31 + 1) * 37 + 1;
        Check.due("TRAIL goes on", m.count(5), trail);
        m.poke(2048, 5);
        m.at(0);
        m.spend(3);
        Check.due("no other call comes to TRAIL", m.count(5), trail);
    }

    /** If the condition of a CS.. holds for y = 16. */
    private static boolean conditionOf16(int op) {
        int c = op / 2 % 8;
        return c == 2 || c == 4 || c == 5 || c == 7;
    }

    /** "A TALLY for each OP counts how often it was done": the even and the odd OP each for itself. */
    private static void tallies() {
        MixBench m = new MixBench();
        m.at(0);
        Check.put(m, "ADD", 1, 1, 1);
        Check.put(m, "ADDI", 1, 1, 1);
        Check.put(m, "BNP", 2, 255, 254);
        Check.putBytes(m, 8, 0x5D, 2, 255, 254);
        Check.due("1,000 done", m.go(0, 1000), 0);
        Check.due("ADD", m.tally(0x20), 334);
        Check.due("ADDI", m.tally(0x21), 333);
        Check.due("PBNPB", m.tally(0x5D), 333);
        Check.due("its even OP", m.tally(0x5C), 0);
        Check.due("count(6)", m.count(6), 334);
        for (int i = 0; i < 3; i++) {
            m.go(400, 5);
        }
        Check.due("HALT, too", m.tally(0), 3);
    }

    /** "M4[PC]": the last INSTRUCTION stands at 16,380, and PC is 4 more behind it. */
    private static void theLastPlace() {
        MixBench m = new MixBench();
        m.at(16380);
        Check.put(m, "INCL", 1, 0, 1);
        Check.due("the last INSTRUCTION", m.go(16380, 1), 0);
        Check.due("it was done", m.get(1), 1);
        Check.due("PC behind it", m.count(0), 16384);
        Check.due("none is there", m.go(-1, 1), 3);
        Check.due("PC stays there", m.count(0), 16384);
        Check.due("the last of two", m.go(16383, 2), 3);
        Check.due("the first was done", m.get(1), 2);
    }

    public static void main(String[] args) {
        loads();
        stores();
        eventsOfStores();
        highAndConstant();
        beyond();
        noInstruction();
        illegal();
        specials();
        wholeSpecials();
        traps();
        branches();
        jumpsAndAddresses();
        goes();
        times();
        trails();
        tallies();
        theLastPlace();
        Check.end("MachineBoundsTest");
    }
}
