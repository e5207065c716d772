/** Each kind of INSTRUCTION with answers reckoned by hand, and the edges that the document names. */
public final class InstructionTest extends Trial {
    private static void products() {
        is("MUL", 6, -7, -42, 0);
        is("MUL", MIN, 1, MIN, 0);
        is("MUL", MIN, -1, MIN, 64);
        is("MUL", 1L << 32, 1L << 31, MIN, 64);
        is("MUL", 1L << 32, -1L << 31, MIN, 0);
        is("MUL", 1L << 32, 1L << 32, 0, 64);
        is("MULI", -5, 99, -15, 0);
        is("MULU", -1, -1, 1, 0);
        Check.due("rH of -1, -1", bench.get(256 + R_H), -2);
        is("MULU", MIN, 4, 0, 0);
        Check.due("rH of MIN, 4", bench.get(256 + R_H), 2);
        is("MUL", 1L << 40, 1L << 40, 0, 64);
        Check.due("MUL leaves rH", bench.get(256 + R_H), 0);
        Check.due("MUL's OOPS", bench.count(1), 10);
        is("MULUI", -1, 0, -3, 0);
        Check.due("rH of -1, 3", bench.get(256 + R_H), 2);
        Check.due("MULUI's OOPS", bench.count(1), 10);
    }

    private static void quotients() {
        is("DIV", 7, 2, 3, 0);
        Check.due("rR of 7, 2", bench.get(256 + R_R), 1);
        is("DIV", -7, 2, -4, 0);
        Check.due("rR of -7, 2", bench.get(256 + R_R), 1);
        is("DIV", 7, -2, -4, 0);
        Check.due("rR of 7, -2", bench.get(256 + R_R), -1);
        is("DIV", -7, -2, 3, 0);
        Check.due("rR of -7, -2", bench.get(256 + R_R), -1);
        is("DIV", MIN, -1, MIN, 64);
        Check.due("rR of MIN, -1", bench.get(256 + R_R), 0);
        is("DIV", MIN, 1, MIN, 0);
        is("DIV", -9, 0, 0, 128);
        Check.due("rR of -9, 0", bench.get(256 + R_R), -9);
        Check.due("DIV's OOPS", bench.count(1), 60);
        is("DIVU", -1, 10, 1844674407370955161L, 0);
        Check.due("rR of DIVU", bench.get(256 + R_R), 5);
        is("DIVU", 5, 0, 0, 0);
        Check.due("rR of DIVU by 0", bench.get(256 + R_R), 5);
        Check.due("DIVU's OOPS", bench.count(1), 60);
        bench = new MixBench();
        special(R_D, 3);
        String what = runOn(bench, "DIVU", 7, 4);
        Check.due(what, bench.get(1), 0xC000000000000001L);
        Check.due(what + ": rR", bench.get(256 + R_R), 3);
        what = runOn(bench, "DIVU", 7, 3);
        Check.due(what + ", not above rD", bench.get(1), 3);
        Check.due(what + ", not above rD: rR", bench.get(256 + R_R), 7);
        special(R_D, -2);
        what = runOn(bench, "DIVU", -1, -1);
        Check.due(what, bench.get(1), -1);
        Check.due(what + ": rR", bench.get(256 + R_R), -2);
    }

    private static void sums() {
        is("ADD", 1, 2, 3, 0);
        is("ADD", MAX, 1, MIN, 64);
        is("ADD", MIN, -1, MAX, 64);
        is("ADD", MAX, MIN, -1, 0);
        is("ADDI", MAX, 0, MAX - MAX + MIN + 2, 64);
        is("ADDU", MAX, 1, MIN, 0);
        is("SUB", MIN, 1, MAX, 64);
        is("SUB", 0, MIN, MIN, 64);
        is("SUB", -1, MIN, MAX, 0);
        is("SUBU", MIN, 1, MAX, 0);
        is("SUBUI", 1, 9, -2, 0);
        is("DADDU", 5, 1, 11, 0);
        is("QADDU", 5, 1, 21, 0);
        is("OADDU", 5, 1, 41, 0);
        is("HADDU", 5, 1, 81, 0);
        is("HADDU", 1L << 60, 1, 1, 0);
        is("CMP", -1, 1, -1, 0);
        is("CMP", 1, 1, 0, 0);
        is("CMP", MAX, MIN, 1, 0);
        is("CMPU", -1, 1, 1, 0);
        is("CMPU", 1, -1, -1, 0);
        is("CMPU", MIN, MIN, 0, 0);
        is("CMPI", 2, 99, -1, 0);
        is("NEG", 99, 5, -3, 0);
        is("NEG", 99, MIN, MIN + 2, 64);
        is("NEG", 99, MIN + 3, MAX, 0);
        is("NEG", 99, MIN + 2, MIN, 64);
        is("NEGI", 99, 99, -1, 0);
        is("NEGU", 99, MIN, MIN + 2, 0);
    }

    private static void shifts() {
        is("SL", 3, 4, 48, 0);
        is("SL", 1, 63, MIN, 64);
        is("SL", -1, 63, MIN, 0);
        is("SL", 1, 64, 0, 64);
        is("SL", 0, 64, 0, 0);
        is("SL", 0, -1, 0, 0);
        is("SL", -1, MIN, 0, 64);
        is("SL", MIN, 0, MIN, 0);
        is("SLU", 1, 64, 0, 0);
        is("SLU", 3, 63, MIN, 0);
        is("SLU", 3, 128, 0, 0);
        is("SR", -5, 1, -3, 0);
        is("SR", -5, 64, -1, 0);
        is("SR", 5, 64, 0, 0);
        is("SR", -5, -1, -1, 0);
        is("SRU", -1, 1, MAX, 0);
        is("SRU", -1, 63, 1, 0);
        is("SRU", -1, 64, 0, 0);
        is("SRUI", -1, 0, -1L >>> 3, 0);
    }

    /** Bit i of a row tells if the condition holds for the i-th of the values. */
    private static final long[] VALUES = {MIN, -2, -1, 0, 1, 2, MAX};
    private static final String[] CONDITIONS = {"N", "Z", "P", "OD", "NN", "NZ", "NP", "EV"};
    private static final String[] HOLD = {
        "1110000", "0001000", "0000111", "0010101", "0001111", "1110111", "1111000", "1101010"
    };

    private static void branch(String name, boolean probable, long v, boolean holds) {
        for (int back = 0; back < 2; back++) {
            MixBench m = new MixBench();
            m.set(1, v);
            m.at(HERE);
            int y = back == 0 ? 1 : 255;
            Check.put(m, back == 0 ? name : name + "B", 1, y, 2);
            Check.due(name + ": go", m.go(HERE, 1), 0);
            String what = name + (back == 0 ? "" : "B") + " on " + v;
            int jump = back == 0 ? 4 * 258 : -4 * 254;
            Check.due(what + ": PC", m.count(0), HERE + (holds ? jump : 4));
            Check.due(what + ": OOPS", m.count(1), holds == probable ? 1 : 3);
            Check.due(what + ": register 1", m.get(1), v);
        }
    }

    private static void conditional(String name, long v, boolean holds, long otherwise) {
        bench = new MixBench();
        bench.set(1, 1234);
        String what = runOn(bench, name, v, 777);
        Check.due(what, bench.get(1), holds ? 777 : otherwise);
        bench.set(1, 1234);
        what = runOn(bench, name + "I", v, 777);
        Check.due(what, bench.get(1), holds ? 3 : otherwise);
        Check.due(what + ": OOPS", bench.count(1), 2);
    }

    private static void conditions() {
        for (int c = 0; c < 8; c++) {
            for (int i = 0; i < VALUES.length; i++) {
                boolean holds = HOLD[c].charAt(i) == '1';
                branch("B" + CONDITIONS[c], false, VALUES[i], holds);
                branch("PB" + CONDITIONS[c], true, VALUES[i], holds);
                conditional("CS" + CONDITIONS[c], VALUES[i], holds, 1234);
                conditional("ZS" + CONDITIONS[c], VALUES[i], holds, 0);
            }
        }
    }

    private static void load(String name, long a, long x) {
        MixBench m = new MixBench();
        m.poke(16, 0x8182838485868788L);
        String what = runOn(m, name, a - 1, 1);
        Check.due(what, m.get(1), x);
        Check.due(what + ": MEMS", m.count(2), 1);
        Check.due(what + ": OOPS", m.count(1), 1);
    }

    private static void loads() {
        load("LDB", 16, -127);
        load("LDB", 23, -120);
        load("LDBU", 18, 0x83);
        load("LDW", 17, -32382);
        load("LDW", 22, (short) 0x8788);
        load("LDWU", 19, 0x8384);
        load("LDT", 19, (int) 0x81828384);
        load("LDT", 20, (int) 0x85868788);
        load("LDTU", 23, 0x85868788L);
        load("LDO", 23, 0x8182838485868788L);
        load("LDOU", 16, 0x8182838485868788L);
        load("LDHT", 18, 0x8182838400000000L);
        load("LDHT", 21, 0x8586878800000000L);
        load("LDB", 24, 0);
        load("LDB", 15, 0);
        load("LDO", 16383, 0);
    }

    private static void store(String name, long a, long x, long octa, long events) {
        MixBench m = new MixBench();
        m.poke(16, 0x1111111111111111L);
        m.set(1, x);
        String what = runOn(m, name, a - 1, 1) + " of " + x;
        Check.due(what, m.peek(16), octa);
        Check.due(what + ": rA", m.get(256 + R_A), events);
        Check.due(what + ": MEMS", m.count(2), 1);
        Check.due(what + ": register X", m.get(1), x);
        Check.due(what + ": before", m.peek(8), 0);
        Check.due(what + ": behind", m.peek(24), 0);
    }

    private static void stores() {
        store("STB", 16, 127, 0x7F11111111111111L, 0);
        store("STB", 23, 128, 0x1111111111111180L, 64);
        store("STB", 22, -128, 0x1111111111118011L, 0);
        store("STB", 22, -129, 0x1111111111117F11L, 64);
        store("STBU", 17, 0x1FE, 0x11FE111111111111L, 0);
        store("STW", 19, 32767, 0x11117FFF11111111L, 0);
        store("STW", 18, 32768, 0x1111800011111111L, 64);
        store("STWU", 23, -1, 0x111111111111FFFFL, 0);
        store("STT", 19, 0x7FFFFFFF, 0x7FFFFFFF11111111L, 0);
        store("STT", 20, 0x80000000L, 0x1111111180000000L, 64);
        store("STTU", 23, 0x80000000L, 0x1111111180000000L, 0);
        store("STO", 23, MIN, MIN, 0);
        store("STOU", 17, -3, -3, 0);
        store("STHT", 22, 0xFEDCBA9876543210L, 0x11111111FEDCBA98L, 0);
        store("STHT", 16, 0xFEDCBA9876543210L, 0xFEDCBA9811111111L, 0);
        store("STCO", 22, 99, 1, 0);
    }

    private static void beyond() {
        String[] names = {"LDB", "LDWI", "LDT", "LDOU", "LDHT", "STB", "STW", "STTU", "STO", "STHT", "STCO"};
        for (String name : names) {
            for (long a : new long[] {-1, 16384, MIN, MAX, 1L << 32, -16384}) {
                MixBench m = new MixBench();
                m.set(1, 300);
                m.set(2, name.endsWith("I") ? a - 3 : a);
                m.at(HERE);
                Check.put(m, name, 1, 2, 3);
                String what = name + " at " + a;
                Check.due(what + ": go", m.go(HERE, 5), 3);
                Check.due(what + ": PC", m.count(0), HERE);
                Check.due(what + ": OOPS", m.count(1), 0);
                Check.due(what + ": MEMS", m.count(2), 0);
                Check.due(what + ": rA", m.get(256 + R_A), 0);
                Check.due(what + ": register X", m.get(1), 300);
            }
        }
    }

    private static void goes() {
        is("ADD", 0, 0, 0, 0);
        String what = run("GO", 2048, 7);
        Check.due(what + ": PC", bench.count(0), 2052);
        Check.due(what + ": x", bench.get(1), HERE + 4);
        Check.due(what + ": OOPS", bench.count(1), 3);
        Check.due(what + ": MEMS", bench.count(2), 0);
        what = run("GOI", -8, 0);
        Check.due(what + ": PC", bench.count(0), -8);
        Check.due(what + ": then", bench.go(-1, 1), 3);
        Check.due(what + ": PC stays", bench.count(0), -8);
        what = run("GO", MAX, 0);
        Check.due(what + ": PC", bench.count(0), MAX - 3);
        MixBench m = new MixBench();
        m.set(5, 400);
        m.at(HERE);
        Check.put(m, "GO", 5, 5, 6);
        m.go(HERE, 1);
        Check.due("GO 5,5,6: PC", m.count(0), 400);
        Check.due("GO 5,5,6: register 5", m.get(5), HERE + 4);
    }

    private static void bits() {
        long y = 0b1100;
        long z = 0b1010;
        is("OR", y, z, 0b1110, 0);
        is("ORN", y, z, ~0b0010L, 0);
        is("NOR", y, z, ~0b1110L, 0);
        is("XOR", y, z, 0b0110, 0);
        is("AND", y, z, 0b1000, 0);
        is("ANDN", y, z, 0b0100, 0);
        is("NAND", y, z, ~0b1000L, 0);
        is("NXOR", y, z, ~0b0110L, 0);
        is("ANDNI", 0xFF, 0, 0xFC, 0);
        is("BDIF", 0x0105FF0080007F10L, 0x0203FE01017F8010L, 0x000201007F000000L, 0);
        is("WDIF", 0x0001FFFF80000005L, 0x0002000100017FFFL, 0xFFFE7FFF0000L, 0);
        is("TDIF", 0x8000000000000001L, 0x0000000100000002L, 0x7FFFFFFF00000000L, 0);
        is("ODIF", MIN, 1, MAX, 0);
        is("ODIF", 1, MIN, 0, 0);
        is("ODIF", 5, 5, 0, 0);
        is("SADD", -1, 0, 64, 0);
        is("SADD", 0xFF, 0x0F, 4, 0);
        is("SADD", MIN, 0, 1, 0);
        bench = new MixBench();
        special(R_M, 0xFF00L);
        String what = runOn(bench, "MUX", 0x1234L, 0x5678L);
        Check.due(what, bench.get(1), 0x1278);
        is("MUX", 0x1234, 0x5678, 0x5678, 0);
    }

    private static void matrices() {
        long y = 0x0102040810204081L;
        is("MOR", y, 0x8040201008040201L, y, 0);
        is("MOR", y, 0x0102040810204080L, 0x8140201008040201L, 0);
        is("MXOR", y, 0x0102040810204080L, 0x8140201008040201L, 0);
        is("MOR", y, 0xC100000000000000L, 0x8300000000000000L, 0);
        is("MXOR", y, 0xC100000000000000L, 0x8200000000000000L, 0);
        is("MOR", 0x00000000000000ABL, 1, 0xAB, 0);
        is("MOR", 0xAB00000000000000L, 0x80, 0xAB, 0);
        is("MORI", 0x0000000000000F31L, 0, 0x3F, 0);
        is("MXORI", 0x0000000000000F31L, 0, 0x3E, 0);
    }

    private static void wyde(String name, long x, long want) {
        MixBench m = new MixBench();
        m.set(1, x);
        m.at(HERE);
        Check.put(m, name, 1, 0xAB, 0xCD);
        m.go(HERE, 1);
        Check.due(name + " on " + x, m.get(1), want);
        Check.due(name + ": rA", m.get(256 + R_A), 0);
    }

    private static void wydes() {
        wyde("SETH", -1, 0xABCD000000000000L);
        wyde("SETMH", -1, 0x0000ABCD00000000L);
        wyde("SETML", -1, 0x00000000ABCD0000L);
        wyde("SETL", -1, 0xABCD);
        wyde("INCH", MAX, MAX + 0xABCD000000000000L);
        wyde("INCMH", -1, 0x0000ABCCFFFFFFFFL);
        wyde("INCML", -1, 0xABCCFFFFL);
        wyde("INCL", MAX, MIN + 0xABCC);
        wyde("ORH", 1, 0xABCD000000000001L);
        wyde("ORMH", 1, 0xABCD00000001L);
        wyde("ORML", 1, 0xABCD0001L);
        wyde("ORL", 0x10000, 0x1ABCDL);
        wyde("ANDNH", -1, 0x5432FFFFFFFFFFFFL);
        wyde("ANDNMH", -1, 0xFFFF5432FFFFFFFFL);
        wyde("ANDNML", -1, 0xFFFFFFFF5432FFFFL);
        wyde("ANDNL", -1, 0xFFFFFFFFFFFF5432L);
    }

    private static void jump(String name, int x, int y, int z, long pc) {
        MixBench m = new MixBench();
        m.at(HERE);
        Check.put(m, name, x, y, z);
        Check.due(name + ": go", m.go(HERE, 1), 0);
        String what = name + " " + x + "," + y + "," + z;
        Check.due(what + ": PC", m.count(0), pc);
        Check.due(what + ": OOPS", m.count(1), 1);
    }

    private static void jumpsAndAddresses() {
        jump("JMP", 0, 0, 5, HERE + 20);
        jump("JMP", 0, 0, 0, HERE);
        jump("JMP", 255, 255, 255, HERE + 4 * 0xFFFFFFL);
        jump("JMPB", 255, 255, 254, HERE - 8);
        jump("JMPB", 0, 0, 0, HERE - 4 * 0x1000000L);
        MixBench m = new MixBench();
        m.at(HERE);
        Check.put(m, "GETA", 1, 1, 2);
        Check.put(m, "GETAB", 2, 255, 254);
        Check.put(m, "GETAB", 3, 0, 0);
        Check.due("GETA", m.go(HERE, 3), 0);
        Check.due("GETA", m.get(1), HERE + 4 * 258);
        Check.due("GETAB", m.get(2), HERE + 4 - 8);
        Check.due("GETAB 0", m.get(3), HERE + 8 - 4 * 65536);
        Check.due("PC behind them", m.count(0), HERE + 12);
    }

    private static void specials() {
        MixBench m = new MixBench();
        m.set(8, -77);
        for (int k = 0; k < 8; k++) {
            m.at(HERE);
            Check.put(m, "PUT", k, 1, 8);
            Check.put(m, "GET", 9, 1, k);
            Check.put(m, "PUTI", k, 1, 8);
            Check.due("PUT, GET " + k, m.go(HERE, 2), 0);
            Check.due("GET " + k, m.get(9), -77);
            Check.due("special " + k, m.get(256 + k), -77);
            Check.due("PUTI " + k, m.go(-1, 1), 0);
            Check.due("special " + k, m.get(256 + k), 8);
        }
        for (int k : new int[] {8, 9, 128, 255}) {
            int[][] words = {{0xF6, k, 0, 0}, {0xF7, k, 0, 0}, {0xFE, 9, 0, k}};
            for (int[] word : words) {
                Check.putBytes(m, HERE, word[0], word[1], word[2], word[3]);
                Check.due("a wrong special " + k, m.go(HERE, 1), 2);
            }
        }
        Check.due("register 9 stays", m.get(9), -77);
    }

    private static void events() {
        MixBench m = new MixBench();
        bench = m;
        special(R_A, 0x1000);
        runOn(m, "ADD", MAX, 1);
        Check.due("V joins rA", m.get(256 + R_A), 0x1040);
        runOn(m, "DIV", 1, 0);
        Check.due("D joins rA", m.get(256 + R_A), 0x10C0);
        runOn(m, "ADD", 1, 1);
        Check.due("V stays", m.get(256 + R_A), 0x10C0);
    }

    private static void traps() {
        MixBench m = new MixBench();
        m.set(7, 0x141);
        int[][] wrong = {{0, 0, 1}, {0, 0, 7}, {0, 2, 0}, {0, 2, 7}, {1, 0, 0}, {1, 1, 7}, {255, 1, 7}, {0, 255, 0}};
        for (int[] word : wrong) {
            Check.putBytes(m, 0, 0, word[0], word[1], word[2]);
            Check.due("TRAP " + word[0] + "," + word[1] + "," + word[2], m.go(0, 1), 2);
        }
        Check.due("nothing is done", m.tally(0) + m.count(1) + m.count(3), 0);
        Check.putBytes(m, 0, 0, 0, 1, 7);
        Check.due("TRAP 0,1,7", m.go(0, 1), 0);
        Check.due("output(0)", m.output(0), 0x41);
        Check.due("PC", m.count(0), 4);
        Check.due("OOPS", m.count(1), 5);
        Check.putBytes(m, 0, 0, 0, 1, 0);
        Check.due("TRAP 0,1,0", m.go(0, 1), 0);
        Check.due("output(1)", m.output(1), 0);
    }

    private static void illegalOps() {
        for (int op = 1; op < 256; op++) {
            boolean isKnown = op >= 0x18 && op < 0x90 || op == 0x92 || op == 0x93 || op == 0x9E || op == 0x9F
                || op >= 0xA0 && op < 0xB0 || op >= 0xB2 && op < 0xB6 || op >= 0xC0 && op < 0xF2
                || op >= 0xF4 && op < 0xF8 || op == 0xFD || op == 0xFE;
            MixBench m = new MixBench();
            Check.putBytes(m, HERE, op, 1, 2, 3);
            Check.due("OP " + Integer.toHexString(op), m.go(HERE, 1), isKnown ? 0 : 2);
            Check.due("TALLY of " + Integer.toHexString(op), m.tally(op), isKnown ? 1 : 0);
            if (!isKnown) {
                Check.due("PC at " + Integer.toHexString(op), m.count(0), HERE);
                Check.due("OOPS at " + Integer.toHexString(op), m.count(1), 0);
            }
        }
    }

    private static void changesItself() {
        MixBench m = new MixBench();
        m.at(0);
        Check.put(m, "STTU", 1, 2, 3);
        Check.put(m, "HALT", 0, 0, 0);
        m.set(1, 0xFD000000L);
        m.set(2, 4);
        Check.due("a HALT that becomes a SWYM", m.go(0, 2), 0);
        Check.due("PC", m.count(0), 8);
    }

    private static void sameRegister() {
        MixBench m = new MixBench();
        m.set(1, 17);
        m.at(HERE);
        Check.put(m, "DIV", 1, 1, 1);
        Check.put(m, "SETL", 1, 0, 17);
        Check.put(m, "DIVI", 1, 1, 5);
        Check.due("DIV 1,1,1", m.go(HERE, 3), 0);
        Check.due("DIVI 1,1,5", m.get(1), 3);
        Check.due("rR", m.get(256 + R_R), 2);
    }

    public static void main(String[] args) {
        products();
        quotients();
        sums();
        shifts();
        conditions();
        loads();
        stores();
        beyond();
        goes();
        bits();
        matrices();
        wydes();
        jumpsAndAddresses();
        specials();
        events();
        traps();
        illegalOps();
        changesItself();
        sameRegister();
        Check.end("InstructionTest");
    }
}
