import java.math.BigInteger;

/**
 * The machine once more, told by BigInteger and single bytes instead of long's bits,
 * so that the two are not wrong in the same way. It has no assembler.
 */
final class Model {
    private static final BigInteger TWO_64 = BigInteger.ONE.shiftLeft(64);

    final long[] registers = new long[256];
    final long[] specials = new long[8];
    final int[] bytes = new int[16384];
    final long[] tallies = new long[256];
    final int[] output = new int[500];
    int kept;
    long pc;
    long oops;
    long mems;
    long trail;
    long lastTally;

    private int op;
    private int bx;
    private int by;
    private int bz;

    static BigInteger s(long v) {
        return BigInteger.valueOf(v);
    }

    static BigInteger u(long v) {
        return BigInteger.valueOf(v).mod(TWO_64);
    }

    private static BigInteger power(int n) {
        return BigInteger.ONE.shiftLeft(n);
    }

    /** BigInteger's own division rounds toward zero. */
    private static BigInteger floor(BigInteger a, BigInteger b) {
        BigInteger[] parts = a.divideAndRemainder(b);
        boolean isBelow = parts[1].signum() != 0 && parts[1].signum() != b.signum();
        return isBelow ? parts[0].subtract(BigInteger.ONE) : parts[0];
    }

    BigInteger bytesAt(long a, int size) {
        int first = (int) a - (int) a % size;
        BigInteger value = BigInteger.ZERO;
        for (int i = 0; i < size; i++) {
            value = value.multiply(s(256)).add(s(bytes[first + i]));
        }
        return value;
    }

    void bytesTo(long a, int size, BigInteger value) {
        int first = (int) a - (int) a % size;
        for (int i = size - 1; i >= 0; i--) {
            bytes[first + i] = value.mod(s(256)).intValue();
            value = floor(value, s(256));
        }
    }

    private static BigInteger withSign(BigInteger value, int size) {
        BigInteger low = value.mod(power(8 * size));
        return low.testBit(8 * size - 1) ? low.subtract(power(8 * size)) : low;
    }

    private static boolean beyond(long a) {
        return a < 0 || a > 16383;
    }

    int go(int from, int n) {
        if (from >= 0) {
            pc = from / 4 * 4;
        }
        for (int i = 0; i < n; i++) {
            int end = one();
            if (end != 0) {
                return end;
            }
        }
        return 0;
    }

    private boolean between(int low, int high) {
        return op >= low && op <= high;
    }

    private boolean known() {
        if (op == 0) {
            return bx == 0 && (by == 1 || by == 0 && bz == 0);
        }
        if (op == 0xF6 || op == 0xF7) {
            return bx <= 7;
        }
        if (op == 0xFE) {
            return bz <= 7;
        }
        return between(0x18, 0x8F) || between(0x92, 0x93) || between(0x9E, 0x9F)
            || between(0xA0, 0xAF) || between(0xB2, 0xB5) || between(0xC0, 0xF1)
            || between(0xF4, 0xF5) || op == 0xFD;
    }

    private int one() {
        if (beyond(pc)) {
            return 3;
        }
        op = bytes[(int) pc];
        bx = bytes[(int) pc + 1];
        by = bytes[(int) pc + 2];
        bz = bytes[(int) pc + 3];
        trail = trail * 31 + registers[by];
        trail = trail * 31 + registers[bz];
        trail = trail * 31 + registers[bx];
        if (!known()) {
            return 2;
        }
        long y = registers[by];
        boolean number = op % 2 == 1 && !between(0x40, 0x5F) && !between(0xE0, 0xFF) || op == 0xF7;
        long z = number ? bz : registers[bz];
        boolean memory = between(0x80, 0x93) || between(0xA0, 0xB5);
        if (memory && beyond(y + z)) {
            return 3;
        }
        tallies[op]++;
        lastTally = tallies[op];
        oops += between(0x18, 0x1B) ? 10 : between(0x1C, 0x1F) ? 60
            : between(0x9E, 0x9F) ? 3 : op == 0 ? 5 : 1;
        mems += memory ? 1 : 0;
        long here = pc;
        pc += 4;
        done(here, y, z);
        if (op == 0 && by == 0) {
            pc = here;
            return 1;
        }
        return 0;
    }

    private void done(long here, long y, long z) {
        if (op == 0) {
            if (by == 1 && kept < 500) {
                output[kept++] = (int) u(registers[bz]).mod(s(256)).longValue();
            }
        } else if (op < 0x20) {
            multiplyOrDivide(y, z);
        } else if (op < 0x40) {
            reckon(y, z);
        } else if (op < 0x80) {
            conditional(here, y, z);
        } else if (op < 0xC0) {
            memory(here, y + z);
        } else if (op < 0xE0) {
            bits(y, z);
        } else if (op < 0xF0) {
            wyde();
        } else {
            rest(here, z);
        }
    }

    private void write(BigInteger value) {
        write(value.longValue());
    }

    private void write(long value) {
        trail = trail * 37 + registers[bx];
        registers[bx] = value;
    }

    private void event(long bit, boolean happened) {
        if (happened) {
            specials[7] |= bit;
        }
    }

    private void checked(BigInteger value) {
        event(64, !s(value.longValue()).equals(value));
        write(value);
    }

    private void multiplyOrDivide(long y, long z) {
        switch (op - op % 2) {
            case 0x18:
                checked(s(y).multiply(s(z)));
                break;
            case 0x1A:
                specials[3] = u(y).multiply(u(z)).shiftRight(64).longValue();
                write(u(y).multiply(u(z)));
                break;
            case 0x1C:
                if (z == 0) {
                    specials[6] = y;
                    event(128, true);
                    write(0);
                } else {
                    BigInteger x = floor(s(y), s(z));
                    specials[6] = s(y).subtract(s(z).multiply(x)).longValue();
                    checked(x);
                }
                break;
            default:
                if (u(z).compareTo(u(specials[1])) > 0) {
                    BigInteger whole = u(specials[1]).shiftLeft(64).add(u(y));
                    specials[6] = whole.mod(u(z)).longValue();
                    write(whole.divide(u(z)));
                } else {
                    specials[6] = y;
                    write(specials[1]);
                }
        }
    }

    private void reckon(long y, long z) {
        boolean far = u(z).compareTo(s(64)) >= 0;
        BigInteger factor = far ? power(64) : power((int) z);
        switch (op - op % 2) {
            case 0x20: checked(s(y).add(s(z))); break;
            case 0x22: write(s(y).add(s(z))); break;
            case 0x24: checked(s(y).subtract(s(z))); break;
            case 0x26: write(s(y).subtract(s(z))); break;
            case 0x28: write(s(y).multiply(s(2)).add(s(z))); break;
            case 0x2A: write(s(y).multiply(s(4)).add(s(z))); break;
            case 0x2C: write(s(y).multiply(s(8)).add(s(z))); break;
            case 0x2E: write(s(y).multiply(s(16)).add(s(z))); break;
            case 0x30: write(s(y).compareTo(s(z))); break;
            case 0x32: write(u(y).compareTo(u(z))); break;
            case 0x34: checked(s(by).subtract(s(z))); break;
            case 0x36: write(s(by).subtract(s(z))); break;
            case 0x38: checked(s(y).multiply(factor)); break;
            case 0x3A: write(s(y).multiply(factor)); break;
            case 0x3C: write(floor(s(y), factor)); break;
            default: write(floor(u(y), factor));
        }
    }

    private static boolean condition(int c, long v) {
        BigInteger value = s(v);
        switch (c) {
            case 0: return value.signum() < 0;
            case 1: return value.signum() == 0;
            case 2: return value.signum() > 0;
            case 3: return value.testBit(0);
            case 4: return value.signum() >= 0;
            case 5: return value.signum() != 0;
            case 6: return value.signum() <= 0;
            default: return !value.testBit(0);
        }
    }

    private void conditional(long here, long y, long z) {
        int c = op % 16 / 2;
        if (op < 0x60) {
            boolean jumps = condition(c, registers[bx]);
            oops += op < 0x50 ? (jumps ? 2 : 0) : (jumps ? 0 : 2);
            int yz = 256 * by + bz;
            if (jumps) {
                pc = op % 2 == 0 ? here + 4 * yz : here - 4 * (65536 - yz);
            }
        } else if (condition(c, y)) {
            write(z);
        } else if (op >= 0x70) {
            write(0);
        }
    }

    private void memory(long here, long a) {
        int size = new int[] {1, 2, 4, 8}[op % 16 / 4];
        boolean unsigned = op % 4 >= 2;
        BigInteger x = s(registers[bx]);
        if (op == 0x9E || op == 0x9F) {
            write(here + 4);
            pc = u(a).divide(s(4)).multiply(s(4)).longValue();
        } else if (op >= 0xB4) {
            bytesTo(a, 8, s(bx));
        } else if (op >= 0xB2) {
            bytesTo(a, 4, u(registers[bx]).shiftRight(32));
        } else if (op >= 0xA0) {
            bytesTo(a, size, x);
            event(64, !unsigned && !withSign(x, size).equals(x));
        } else if (op >= 0x92) {
            write(bytesAt(a, 4).shiftLeft(32));
        } else {
            write(unsigned ? bytesAt(a, size) : withSign(bytesAt(a, size), size));
        }
    }

    private void bits(long y, long z) {
        int kind = (op - 0xC0) / 2;
        if (kind >= 8 && kind <= 11) {
            differences(y, z, new int[] {8, 16, 32, 64}[kind - 8]);
            return;
        }
        if (kind == 13) {
            write(u(y).andNot(u(z)).bitCount());
            return;
        }
        if (kind >= 14) {
            matrix(y, z, kind == 15);
            return;
        }
        long value = 0;
        for (int i = 0; i < 64; i++) {
            boolean a = s(y).testBit(i);
            boolean b = s(z).testBit(i);
            boolean m = s(specials[5]).testBit(i);
            boolean[] all = {a || b, a || !b, !(a || b), a != b, a && b, a && !b, !(a && b), a == b};
            boolean bit = kind < 8 ? all[kind] : (m ? a : b);
            value |= bit ? 1L << i : 0;
        }
        write(value);
    }

    private void differences(long y, long z, int width) {
        BigInteger value = BigInteger.ZERO;
        for (int i = 0; i < 64; i += width) {
            BigInteger a = u(y).shiftRight(i).mod(power(width));
            BigInteger b = u(z).shiftRight(i).mod(power(width));
            value = value.add(a.subtract(b).max(BigInteger.ZERO).shiftLeft(i));
        }
        write(value);
    }

    private static int byteOf(long v, int i) {
        return u(v).shiftRight(8 * (7 - i)).mod(s(256)).intValue();
    }

    private void matrix(long y, long z, boolean exclusive) {
        BigInteger value = BigInteger.ZERO;
        for (int i = 0; i < 8; i++) {
            int row = 0;
            for (int j = 0; j < 8; j++) {
                boolean chosen = (byteOf(z, i) & (int) Math.pow(2, 7 - j)) != 0;
                int other = byteOf(y, j);
                row = !chosen ? row : exclusive ? row ^ other : row | other;
            }
            value = value.multiply(s(256)).add(s(row));
        }
        write(value);
    }

    private void wyde() {
        int power = new int[] {48, 32, 16, 0}[op % 4];
        BigInteger that = s(256L * by + bz).shiftLeft(power);
        BigInteger x = u(registers[bx]);
        switch ((op - 0xE0) / 4) {
            case 0: write(that); break;
            case 1: write(x.add(that)); break;
            case 2: write(x.or(that)); break;
            default: write(x.andNot(that));
        }
    }

    private void rest(long here, long z) {
        long yz = 256L * by + bz;
        long xyz = 65536L * bx + yz;
        switch (op) {
            case 0xF0: pc = here + 4 * xyz; break;
            case 0xF1: pc = here - 4 * (16777216 - xyz); break;
            case 0xF4: write(here + 4 * yz); break;
            case 0xF5: write(here - 4 * (65536 - yz)); break;
            case 0xF6: case 0xF7: specials[bx] = z; break;
            case 0xFE: write(specials[bz]); break;
            default: break;
        }
    }

    long mark() {
        BigInteger sum = BigInteger.ZERO;
        for (int k = 0; k < 256; k++) {
            BigInteger factor = new BigInteger("9E3779B97F4A7C15", 16).multiply(s(2 * k + 1));
            sum = sum.add(s(registers[k]).multiply(factor));
        }
        return sum.longValue();
    }
}
