/** Each bound that "Terms" names for the INSTRUCTIONS that reckon: the last value on either side of it. */
public final class ReckoningBoundsTest extends Trial {
    private static final long TWO_31 = 1L << 31;
    private static final long TWO_32 = 1L << 32;
    private static final long TWO_62 = 1L << 62;

    /** Rows of y, z, x and what comes to rA. */
    private static void rows(String name, long[][] rows) {
        for (long[] row : rows) {
            is(name, row[0], row[1], row[2], row[3]);
        }
    }

    /** Rows of y, z, x and what a SPECIAL is then that was 99; nothing comes to rA. */
    private static void rowsWith(String name, int k, long[][] rows) {
        for (long[] row : rows) {
            bench = new MixBench();
            special(k, 99);
            String what = runOn(bench, name, row[0], row[1]);
            Check.due(what, bench.get(1), row[2]);
            Check.due(what + ": SPECIAL " + k, bench.get(256 + k), row[3]);
            Check.due(what + ": rA", bench.get(256 + R_A), 0);
        }
    }

    /** "name 1, y, z" with the number z, by bytes. */
    private static void isNumber(String name, long y, int z, long x, long events) {
        bench = new MixBench();
        bench.set(2, y);
        bench.set(z, z == 2 ? y : -77);
        bench.at(HERE);
        Check.put(bench, name, 1, 2, z);
        String what = name + " on " + y + " and the number " + z;
        Check.due(what + ": go", bench.go(HERE, 1), 0);
        Check.due(what, bench.get(1), x);
        Check.due(what + ": rA", bench.get(256 + R_A), events);
    }

    /** "MUL x = y * z, V if s(y) * s(z) is not s(x)": 2^63 - 1 is 7 * .., 2^63 + 1 is 3 * .. */
    private static void mul() {
        rows("MUL", new long[][] {
            {7, 1317624576693539401L, MAX, 0}, {-7, -1317624576693539401L, MAX, 0},
            {TWO_62, 2, MIN, 64}, {-2, -TWO_62, MIN, 64}, {TWO_62, -2, MIN, 0}, {-2, TWO_62, MIN, 0},
            {-3, 3074457345618258603L, MAX, 64}, {3, 3074457345618258603L, MIN + 1, 64},
            {7, -1317624576693539401L, MIN + 1, 0}, {MAX, 1, MAX, 0}, {MAX, -1, MIN + 1, 0}, {MAX, 2, -2, 64},
            {MIN, 0, 0, 0}, {MIN, 1, MIN, 0}, {MIN, -1, MIN, 64}, {-1, MIN, MIN, 64}, {MIN, 2, 0, 64},
            {MIN, MIN, 0, 64}, {MAX, MAX, 1, 64}, {MIN, MAX, MIN, 64}, {TWO_32, TWO_31, MIN, 64},
            {TWO_32, -TWO_31, MIN, 0}, {TWO_32, TWO_31 - 1, MAX - TWO_32 + 1, 0}, {TWO_32, TWO_32, 0, 64},
            {-1, -1, 1, 0}, {0, 0, 0, 0},
            {0, -1, 0, 0}, {-1, 0, 0, 0}, {0, MIN, 0, 0}, {0, MAX, 0, 0}, {1, MIN, MIN, 0}, {1, -1, -1, 0}
        });
        rowsWith("MUL", R_H, new long[][] {{MAX, 1, MAX, 99}});
    }

    /** "MULU x = y * z, rH = u(y) * u(z) / 2^64", without V. */
    private static void mulu() {
        rowsWith("MULU", R_H, new long[][] {
            {-1, 0, 0, 0}, {-1, 1, -1, 0}, {-1, 2, -2, 1}, {-1, -1, 1, -2}, {MIN, 1, MIN, 0}, {MIN, 2, 0, 1},
            {MAX, 2, -2, 0}, {MAX, 3, MAX - 2, 1}, {TWO_32, TWO_32, 0, 1}, {TWO_32, TWO_32 - 1, -TWO_32, 0},
            {TWO_32 - 1, TWO_32 + 1, -1, 0}, {MIN, MIN, 0, TWO_62}, {0, 0, 0, 0}
        });
    }

    /** "DIV z is 0: x = 0, rR = y, D; else x = s(y) / s(z) rounded down, rR = y - z * x; V if x is 2^63." */
    private static void div() {
        rows("DIV", new long[][] {
            {MIN, -1, MIN, 64}, {MIN + 1, -1, MAX, 0}, {MIN, 1, MIN, 0}, {MIN, -2, TWO_62, 0}, {MIN, MIN, 1, 0},
            {MIN, 0, 0, 128}, {0, 0, 0, 128}, {-1, 0, 0, 128}, {0, 1, 0, 0}, {0, -1, 0, 0}, {MAX, MIN, -1, 0},
            {MIN, MAX, -2, 0}, {MAX, MAX, 1, 0}, {MAX, -1, MIN + 1, 0}
        });
        rowsWith("DIV", R_R, new long[][] {
            {5, 3, 1, 2}, {6, 3, 2, 0}, {-1, 3, -1, 2}, {-3, 3, -1, 0}, {-4, 3, -2, 2}, {1, -3, -1, -2},
            {3, -3, -1, 0}, {4, -3, -2, -2}, {-1, -3, 0, -1}, {-3, -3, 1, 0}, {0, 3, 0, 0}, {MAX, MIN, -1, -1},
            {MIN, MAX, -2, MAX - 1}, {-1, MAX, -1, MAX - 1}, {1, MIN, -1, MIN + 1}, {MIN, 1, MIN, 0}
        });
        isNumber("DIVI", -9, 0, 0, 128);
        Check.due("rR of -9 by the number 0", bench.get(256 + R_R), -9);
        isNumber("DIVI", -256, 255, -2, 0);
        Check.due("rR of -256 by the number 255", bench.get(256 + R_R), 254);
        bench = new MixBench();
        special(R_R, 99);
        Check.due(runOn(bench, "DIV", MIN, -1), bench.get(256 + R_R), 0);
        Check.due(runOn(bench, "DIV", MIN, 0), bench.get(256 + R_R), MIN);
    }

    /** "DIVU u(z) above u(rD): quotient, rest of u(rD) * 2^64 + u(y) by u(z); else x = rD, rR = y": rD, y, z, x, rR. */
    private static void divu() {
        long[][] rows = {
            {0, 0, 0, 0, 0}, {0, 5, 0, 0, 5}, {0, -1, 1, -1, 0}, {0, -1, -1, 1, 0}, {0, -2, -1, 0, -2},
            {0, MIN, 1, MIN, 0}, {0, MIN, -1, 0, MIN}, {3, 7, 2, 3, 7}, {3, 7, 3, 3, 7}, {3, 7, 4, 0xC000000000000001L, 3},
            {3, 7, 0, 3, 7}, {MAX, 7, MAX, MAX, 7}, {MAX, 7, MIN, -2, 7}, {MIN, 7, MAX, MIN, 7}, {MIN, 7, MIN, MIN, 7},
            {-1, 7, -1, -1, 7}, {-1, 7, -2, -1, 7}, {-1, 7, 1, -1, 7}, {-2, -1, -1, -1, -2}, {-2, 0, -1, -2, -2},
            {1, 0, 2, MIN, 0}, {1, -1, 2, -1, 1}
        };
        for (long[] row : rows) {
            bench = new MixBench();
            special(R_D, row[0]);
            String what = runOn(bench, "DIVU", row[1], row[2]) + " with rD " + row[0];
            Check.due(what, bench.get(1), row[3]);
            Check.due(what + ": rR", bench.get(256 + R_R), row[4]);
            Check.due(what + ": rD", bench.get(256 + R_D), row[0]);
            Check.due(what + ": rA", bench.get(256 + R_A), 0);
        }
    }

    /** "ADD x = y + z, V if s(y) + s(z) is not s(x); ADDU; SUB x = y - z, V likewise; SUBU." */
    private static void addAndSub() {
        rows("ADD", new long[][] {
            {MAX, 0, MAX, 0}, {MAX, 1, MIN, 64}, {1, MAX, MIN, 64}, {MAX - 1, 1, MAX, 0}, {MIN, 0, MIN, 0},
            {MIN, -1, MAX, 64}, {-1, MIN, MAX, 64}, {MIN + 1, -1, MIN, 0}, {MIN, MIN, 0, 64}, {MAX, MAX, -2, 64},
            {MAX, MIN, -1, 0}, {MIN, MAX, -1, 0}, {-1, 1, 0, 0},
            {0x5555555555555555L, 0x5555555555555555L, 0xAAAAAAAAAAAAAAAAL, 64}
        });
        rows("ADDU", new long[][] {{MAX, 1, MIN, 0}, {MIN, MIN, 0, 0}, {-1, 1, 0, 0}, {MIN, -1, MAX, 0}});
        rows("SUB", new long[][] {
            {MAX, 0, MAX, 0}, {MAX, -1, MIN, 64}, {MAX - 1, -1, MAX, 0}, {MIN, 0, MIN, 0}, {MIN, 1, MAX, 64},
            {MIN + 1, 1, MIN, 0}, {0, MIN, MIN, 64}, {-1, MIN, MAX, 0}, {0, MAX, MIN + 1, 0}, {-1, MAX, MIN, 0},
            {-2, MAX, MAX, 64}, {MIN, MIN, 0, 0}, {MAX, MIN, -1, 64}, {MIN, MAX, 1, 64},
            {0xAAAAAAAAAAAAAAAAL, 0x5555555555555555L, 0x5555555555555555L, 64}
        });
        rows("SUBU", new long[][] {{0, MIN, MIN, 0}, {MIN, 1, MAX, 0}, {0, 1, -1, 0}, {MAX, -1, MIN, 0}});
        isNumber("ADDI", MAX - 255, 255, MAX, 0);
        isNumber("ADDI", MAX - 254, 255, MIN, 64);
        isNumber("ADDI", MAX, 0, MAX, 0);
        isNumber("SUBI", MIN + 255, 255, MIN, 0);
        isNumber("SUBI", MIN + 254, 255, MAX, 64);
    }

    /** "DADDU, QADDU, OADDU, HADDU x = y * 2, 4, 8, 16 + z", modulo 2^64 and without V. */
    private static void scaledSums() {
        String[] names = {"DADDU", "QADDU", "OADDU", "HADDU"};
        for (int i = 0; i < 4; i++) {
            long factor = 2L << i;
            long wrap = 1L << 63 - i;
            rows(names[i], new long[][] {
                {wrap, 0, 0, 0}, {wrap, 5, 5, 0}, {wrap - 1, factor - 1, -1, 0}, {wrap - 1, factor, 0, 0},
                {-1, 0, -factor, 0}, {-1, factor, 0, 0}, {0, -1, -1, 0}, {0, MIN, MIN, 0}, {1, 0, factor, 0}
            });
            isNumber(names[i] + "I", 1, 255, factor + 255, 0);
        }
    }

    /** "CMP x = -1, 0, 1 as s(y) is less, the same, more than s(z); CMPU with u." */
    private static void comparisons() {
        rows("CMP", new long[][] {
            {MIN, MIN + 1, -1, 0}, {MIN, MIN, 0, 0}, {MIN + 1, MIN, 1, 0}, {MIN, MAX, -1, 0}, {MAX, MIN, 1, 0},
            {MAX - 1, MAX, -1, 0}, {MAX, MAX, 0, 0}, {-1, 0, -1, 0}, {0, 0, 0, 0}, {0, -1, 1, 0}, {-1, 1, -1, 0}
        });
        rows("CMPU", new long[][] {
            {MAX, MIN, -1, 0}, {MIN, MIN, 0, 0}, {MIN, MAX, 1, 0}, {0, -1, -1, 0}, {-1, -1, 0, 0}, {-1, 0, 1, 0},
            {-2, -1, -1, 0}, {0, 1, -1, 0}, {0, 0, 0, 0}, {1, 0, 1, 0}, {0, MIN, -1, 0}
        });
        isNumber("CMPI", 254, 255, -1, 0);
        isNumber("CMPI", 255, 255, 0, 0);
        isNumber("CMPI", 256, 255, 1, 0);
        isNumber("CMPI", -1, 0, -1, 0);
        isNumber("CMPUI", -1, 255, 1, 0);
        isNumber("CMPUI", 255, 255, 0, 0);
    }

    /** "NEG x = Y - z (Y the number), V likewise; NEGU without V": Y, z, x, rA. */
    private static void negations() {
        long[][] rows = {
            {0, MIN, MIN, 64}, {0, MIN + 1, MAX, 0}, {0, MAX, MIN + 1, 0}, {0, 0, 0, 0}, {1, MIN + 1, MIN, 64},
            {1, MIN + 2, MAX, 0}, {128, 0, 128, 0}, {255, 0, 255, 0}, {255, 255, 0, 0}, {255, 256, -1, 0},
            {255, MIN + 255, MIN, 64}, {255, MIN + 256, MAX, 0}, {255, MIN, MIN + 255, 64}, {255, MAX, MIN + 256, 0}
        };
        for (long[] row : rows) {
            for (int u = 0; u < 2; u++) {
                MixBench m = new MixBench();
                m.set((int) row[0], -77);
                m.set(3, row[1]);
                m.at(HERE);
                Check.put(m, u == 0 ? "NEG" : "NEGU", 1, (int) row[0], 3);
                String what = (u == 0 ? "NEG " : "NEGU ") + row[0] + " - " + row[1];
                Check.due(what + ": go", m.go(HERE, 1), 0);
                Check.due(what, m.get(1), row[2]);
                Check.due(what + ": rA", m.get(256 + R_A), u == 0 ? row[3] : 0);
            }
        }
    }

    /** "SL x = y * 2^u(z) (0 from 64 on), V if s(x) / 2^u(z) is not s(y); SLU without V." */
    private static void leftShifts() {
        long[][] rows = {
            {1, 0, 1, 0}, {1, 62, TWO_62, 0}, {1, 63, MIN, 64}, {1, 64, 0, 64}, {1, 65, 0, 64}, {-1, 62, -TWO_62, 0},
            {-1, 63, MIN, 0}, {-1, 64, 0, 64}, {-2, 62, MIN, 0}, {-2, 63, 0, 64}, {-3, 62, TWO_62, 64}, {2, 62, MIN, 64},
            {0, 63, 0, 0}, {0, 64, 0, 0}, {0, -1, 0, 0}, {1, -1, 0, 64}, {1, MIN, 0, 64}, {1, MAX, 0, 64},
            {1, TWO_32, 0, 64}, {1, -64, 0, 64}, {1, 128, 0, 64}, {MAX, 0, MAX, 0}, {MIN, 0, MIN, 0}, {MAX, 1, -2, 64},
            {MIN, 1, 0, 64}, {TWO_62, 1, MIN, 64}, {-TWO_62, 1, MIN, 0}, {TWO_62 - 1, 1, MAX - 1, 0}
        };
        rows("SL", rows);
        for (long[] row : rows) {
            is("SLU", row[0], row[1], row[2], 0);
        }
        isNumber("SLI", 1, 63, MIN, 64);
        isNumber("SLI", 1, 64, 0, 64);
        isNumber("SLI", 1, 255, 0, 64);
        isNumber("SLUI", 1, 63, MIN, 0);
        isNumber("SLUI", 1, 64, 0, 0);
        isNumber("SLUI", -1, 255, 0, 0);
    }

    /** "SR x = s(y) / 2^u(z) rounded down; SRU with u(y)." */
    private static void rightShifts() {
        rows("SR", new long[][] {
            {MIN, 0, MIN, 0}, {MIN, 62, -2, 0}, {MIN, 63, -1, 0}, {MIN, 64, -1, 0}, {MIN, 65, -1, 0}, {MAX, 62, 1, 0},
            {MAX, 63, 0, 0}, {MAX, 64, 0, 0}, {-1, 1, -1, 0}, {-1, -1, -1, 0}, {1, 1, 0, 0}, {1, -1, 0, 0},
            {MIN, TWO_32, -1, 0}, {MAX, TWO_32, 0, 0}, {-3, 1, -2, 0}, {3, 1, 1, 0}, {MAX, MIN, 0, 0}, {MIN, MIN, -1, 0}
        });
        rows("SRU", new long[][] {
            {MIN, 0, MIN, 0}, {MIN, 62, 2, 0}, {MIN, 63, 1, 0}, {MIN, 64, 0, 0}, {-1, 63, 1, 0}, {-1, 64, 0, 0},
            {-1, 65, 0, 0}, {-1, -1, 0, 0}, {-1, MIN, 0, 0}, {-1, TWO_32, 0, 0}, {-1, 0, -1, 0}, {-1, 128, 0, 0}
        });
        isNumber("SRI", MIN, 63, -1, 0);
        isNumber("SRI", MIN, 255, -1, 0);
        isNumber("SRUI", MIN, 63, 1, 0);
        isNumber("SRUI", MIN, 64, 0, 0);
        isNumber("SRUI", MIN, 255, 0, 0);
    }

    /** "In each 1, 2, 4, 8 bytes: u(y) - u(z), 0 if that is below 0." */
    private static void differences() {
        String[] names = {"BDIF", "WDIF", "TDIF", "ODIF"};
        for (int i = 0; i < 4; i++) {
            int width = 8 << i;
            long most = -1L >>> 64 - width;
            long half = 1L << width - 1;
            long[][] parts = {
                {0, 0, 0}, {0, 1, 0}, {1, 0, 1}, {1, 1, 0}, {most, 0, most}, {0, most, 0}, {most, most, 0},
                {most, most - 1, 1}, {most - 1, most, 0}, {half, half - 1, 1}, {half - 1, half, 0}, {half, 0, half}
            };
            for (int shift = 0; shift < 64; shift += width) {
                for (long[] part : parts) {
                    is(names[i], part[0] << shift, part[1] << shift, part[2] << shift, 0);
                }
            }
        }
        is("BDIF", 0x0001000100010001L, 0x0100010001000100L, 0x0001000100010001L, 0);
        is("WDIF", 0x0000000100000001L, 0x0001000000010000L, 0x0000000100000001L, 0);
        is("TDIF", 1, TWO_32, 1, 0);
        isNumber("BDIFI", 0x100, 255, 0x100, 0);
        isNumber("WDIFI", 0x100, 255, 1, 0);
    }

    /** "MUX x = y where rM has 1, else z. SADD x = how many bits are 1 in y and not in z." */
    private static void chosenAndCounted() {
        long[][] rows = {{0, 5, 9, 9}, {-1, 5, 9, 5}, {MIN, MIN, MAX, -1}, {MIN, MAX, MIN, 0}, {1, 1, 0, 1}, {1, 0, 1, 0}};
        for (long[] row : rows) {
            bench = new MixBench();
            special(R_M, row[0]);
            Check.due(runOn(bench, "MUX", row[1], row[2]) + " with rM " + row[0], bench.get(1), row[3]);
        }
        rows("SADD", new long[][] {
            {0, 0, 0, 0}, {0, -1, 0, 0}, {-1, 0, 64, 0}, {-1, -1, 0, 0}, {-1, MIN, 63, 0}, {MIN, 0, 1, 0}, {1, 0, 1, 0},
            {MIN, MIN, 0, 0}, {-1, 1, 63, 0}
        });
        isNumber("SADDI", -1, 255, 56, 0);
    }

    /** "Byte i of x is the or (exclusive or) of the bytes j of y for which bit j of byte i of z is 1." */
    private static void matrices() {
        for (int i = 0; i < 8; i++) {
            for (int j = 0; j < 8; j++) {
                long z = 1L << 7 - j << 56 - 8 * i;
                long y = 0xA5L << 56 - 8 * j;
                is("MOR", y, z, 0xA5L << 56 - 8 * i, 0);
                is("MXOR", y, z, 0xA5L << 56 - 8 * i, 0);
                is("MOR", ~(0xFFL << 56 - 8 * j), z, 0, 0);
                is("MXOR", ~(0xFFL << 56 - 8 * j), z, 0, 0);
            }
        }
        is("MOR", -1, -1, -1, 0);
        is("MXOR", -1, -1, 0, 0);
        is("MOR", -1, 0, 0, 0);
        is("MXOR", 0, -1, 0, 0);
        is("MXOR", -1, 0x80808080808080FFL, 0xFFFFFFFFFFFFFF00L, 0);
    }

    /** "SETH, SETMH, SETML, SETL x = YZ * 2^48, ..; INC x = x + that; OR; ANDN": YZ 0, 1, 32,768 and 65,535. */
    private static void wydes() {
        String[] ends = {"H", "MH", "ML", "L"};
        for (int i = 0; i < 4; i++) {
            for (int yz : new int[] {0, 1, 0x7FFF, 0x8000, 0xFFFF}) {
                long that = (long) yz << 48 - 16 * i;
                for (long x : new long[] {0, -1, MAX, MIN}) {
                    wyde("SET" + ends[i], x, yz, that);
                    wyde("INC" + ends[i], x, yz, x + that);
                    wyde("OR" + ends[i], x, yz, x | that);
                    wyde("ANDN" + ends[i], x, yz, x & ~that);
                }
            }
        }
    }

    private static void wyde(String name, long x, int yz, long want) {
        MixBench m = new MixBench();
        m.set(1, x);
        m.at(HERE);
        Check.put(m, name, 1, yz >> 8, yz);
        Check.due(name + ": go", m.go(HERE, 1), 0);
        Check.due(name + " " + yz + " on " + x, m.get(1), want);
        Check.due(name + " " + yz + " on " + x + ": rA", m.get(256 + R_A), 0);
    }

    /** "z: register Z, or, for odd OP (but 40 .. 5F, E0 .. FF) the number Z": 0 .. 255, never below 0. */
    private static void numbersForZ() {
        for (int z : new int[] {0, 1, 2, 127, 128, 255}) {
            isNumber("ADDUI", 1000, z, 1000 + z, 0);
            isNumber("SUBUI", 1000, z, 1000 - z, 0);
            isNumber("ORI", 0, z, z, 0);
            isNumber("MXORI", 0xFF, z, z % 2 == 0 ? 0 : 0xFF, 0);
            isNumber("CSNNI", 7, z, z, 0);
            isNumber("ZSODI", 7, z, z, 0);
            isNumber("MULUI", 1, z, z, 0);
        }
        isNumber("XORI", -1, 255, -256, 0);
        isNumber("NORI", 0, 255, -256, 0);
    }

    /** "x, y: registers X, Y; z: register Z": 0 and 255 are registers like all others. */
    private static void firstAndLastRegister() {
        int[] ends = {0, 255};
        for (int x : ends) {
            for (int y : ends) {
                for (int z : ends) {
                    MixBench m = new MixBench();
                    m.set(0, 20);
                    m.set(255, 300);
                    m.at(HERE);
                    Check.put(m, "SUB", x, y, z);
                    Check.due("SUB: go", m.go(HERE, 1), 0);
                    String what = "SUB " + x + "," + y + "," + z;
                    Check.due(what, m.get(x), (y == 0 ? 20 : 300) - (z == 0 ? 20 : 300));
                    Check.due(what + " leaves the other", m.get(255 - x), x == 0 ? 300 : 20);
                }
            }
        }
    }

    /** "V, D: bits 64, 128 of rA become 1": what is 1 stays, and no other bit changes. */
    private static void events() {
        for (long old : new long[] {0, 64, 128, 192, MIN, -1, ~64L, ~128L}) {
            bench = new MixBench();
            special(R_A, old);
            String what = " with rA " + old;
            Check.due(runOn(bench, "ADD", 1, 1) + what, bench.get(256 + R_A), old);
            Check.due(runOn(bench, "ADD", MAX, 1) + what, bench.get(256 + R_A), old | 64);
            bench = new MixBench();
            special(R_A, old);
            Check.due(runOn(bench, "DIV", MAX, 0) + what, bench.get(256 + R_A), old | 128);
            Check.due(runOn(bench, "DIV", MIN, -1) + what, bench.get(256 + R_A), old | 192);
        }
    }

    /** "CONDITIONS: s(v) below 0; 0; above 0; odd; not below 0; not 0; not above 0; even." */
    private static void conditions() {
        String[] ends = {"N", "Z", "P", "OD", "NN", "NZ", "NP", "EV"};
        long[] values = {MIN, MIN + 1, -2, -1, 0, 1, 2, MAX - 1, MAX};
        String[] hold = {
            "111100000", "000010000", "000001111", "010101001", "000011111", "111101111", "111110000", "101010110"
        };
        for (int c = 0; c < 8; c++) {
            for (int i = 0; i < values.length; i++) {
                boolean holds = hold[c].charAt(i) == '1';
                bench = new MixBench();
                bench.set(1, 55);
                Check.due(runOn(bench, "CS" + ends[c], values[i], MIN), bench.get(1), holds ? MIN : 55);
                bench.set(1, 55);
                Check.due(runOn(bench, "ZS" + ends[c], values[i], MIN), bench.get(1), holds ? MIN : 0);
            }
        }
    }

    public static void main(String[] args) {
        mul();
        mulu();
        div();
        divu();
        addAndSub();
        scaledSums();
        comparisons();
        negations();
        leftShifts();
        rightShifts();
        differences();
        chosenAndCounted();
        matrices();
        wydes();
        numbersForZ();
        firstAndLastRegister();
        events();
        conditions();
        Check.end("ReckoningBoundsTest");
    }
}
