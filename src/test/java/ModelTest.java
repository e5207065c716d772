/** Each OP on awkward numbers, and whole programs of chance bytes, against the Model. */
public final class ModelTest {
    private static final long[] AWKWARD = {
        0, 1, -1, 2, -2, 3, 7, -7, 8, 63, 64, 65, 127, 128, -128, -129, 255, 256, 1000,
        16383, 16384, 32767, 32768, -32768, -32769, 65535, 0x7FFFFFFFL, 0x80000000L,
        -0x80000000L, -0x80000001L, 0xFFFFFFFFL, 0x100000000L, 0x100000001L,
        Long.MAX_VALUE, Long.MIN_VALUE, Long.MIN_VALUE + 1, 0x0123456789ABCDEFL,
        0xFEDCBA9876543210L, 0x8040201008040201L, 0x0102040810204080L, 0x00FF00FF00FF00FFL,
        0x5555555555555555L, 0xAAAAAAAAAAAAAAAAL
    };

    private static long seed = 20261119;

    /** The same numbers each time, for a test that fails must fail again. */
    private static long chance() {
        seed = seed * 6364136223846793005L + 1442695040888963407L;
        long mixed = seed ^ seed >>> 29;
        mixed *= 0xBF58476D1CE4E5B9L;
        return mixed ^ mixed >>> 32;
    }

    private static int below(int n) {
        return (int) Math.floorMod(chance(), (long) n);
    }

    private static long number() {
        switch (below(4)) {
            case 0: return chance();
            case 1: return below(20000);
            case 2: return chance() >> below(64);
            default: return AWKWARD[below(AWKWARD.length)];
        }
    }

    private static void same(String what, MixBench m, Model model) {
        long[] counts = {model.pc, model.oops, model.mems, model.kept, -2, model.trail, model.lastTally};
        for (int i = 0; i < counts.length; i++) {
            if (i != 4) {
                Check.due(what + ": count(" + i + ")", m.count(i), counts[i]);
            }
        }
        for (int k = 0; k < 8; k++) {
            Check.due(what + ": special " + k, m.get(256 + k), model.specials[k]);
        }
        Check.due(what + ": mark()", m.mark(), model.mark());
    }

    private static void setBoth(MixBench m, Model model, int k, long v) {
        Check.due("set(" + k + ")", m.set(k, v), model.registers[k]);
        model.registers[k] = v;
    }

    private static void pokeBoth(MixBench m, Model model, int a, long v) {
        Check.due("poke(" + a + ")", m.poke(a, v), model.bytesAt(a, 8).longValue());
        model.bytesTo(a, 8, Model.s(v));
    }

    private static void putBoth(MixBench m, Model model, int a, int[] instruction) {
        Check.putBytes(m, a, instruction[0], instruction[1], instruction[2], instruction[3]);
        for (int i = 0; i < 4; i++) {
            model.bytes[a + i] = instruction[i];
        }
    }

    /** PUT of the SPECIALS goes by a program, for there is no call for it. */
    private static void specialBoth(MixBench m, Model model, int k, long v) {
        setBoth(m, model, 200, v);
        putBoth(m, model, 4096, new int[] {0xF6, k, 0, 200});
        Check.due("PUT", m.go(4096, 1), model.go(4096, 1));
    }

    private static void oneInstruction(int op, long x, long y, long z, int[] bytes) {
        MixBench m = new MixBench();
        Model model = new Model();
        setBoth(m, model, bytes[1], x);
        setBoth(m, model, bytes[2], y);
        setBoth(m, model, bytes[3], z);
        specialBoth(m, model, 1, number());
        specialBoth(m, model, 5, number());
        int near = (int) Math.floorMod(y + z, 16384L);
        pokeBoth(m, model, near, chance());
        putBoth(m, model, 8192, bytes);
        String what = "OP " + Integer.toHexString(op) + " " + bytes[1] + "," + bytes[2] + "," + bytes[3]
            + " on " + x + ", " + y + ", " + z;
        Check.due(what + ": go", m.go(8192, 1), model.go(8192, 1));
        Check.due(what + ": tally", m.tally(op), model.tallies[op]);
        Check.due(what + ": memory", m.peek(near), model.bytesAt(near, 8).longValue());
        same(what, m, model);
    }

    private static void eachOp() {
        for (int op = 0; op < 256; op++) {
            for (int i = 0; i < 60; i++) {
                int kind = below(3);
                int[] bytes = {op, below(256), below(256), below(256)};
                if (kind == 1) {
                    bytes = new int[] {op, below(9), below(9), below(9)};
                } else if (kind == 2) {
                    bytes = new int[] {op, below(2), below(3), below(256)};
                }
                oneInstruction(op, number(), number(), number(), bytes);
            }
        }
    }

    private static void awkwardPairs() {
        for (int op = 0x18; op < 0xE0; op++) {
            boolean isPlain = op < 0x40 || op >= 0xC0;
            if (isPlain) {
                for (long y : AWKWARD) {
                    for (long z : AWKWARD) {
                        oneInstruction(op, 5, y, z, new int[] {op, 1, 2, (op & 1) == 0 ? 3 : (int) z & 255});
                    }
                }
            }
        }
    }

    private static void loadsAndStores() {
        for (int op = 0x80; op < 0xC0; op++) {
            for (int a = -9; a < 17; a++) {
                oneInstruction(op, chance(), a, 0, new int[] {op, 1, 2, 3});
                oneInstruction(op, number(), 16384 + a, 0, new int[] {op, 1, 2, 3});
                oneInstruction(op, number(), a - 5, 5, new int[] {op, 1, 2, 5});
            }
        }
    }

    private static int[] likelyInstruction() {
        int[] ops = {0x18, 0x1A, 0x1C, 0x1E, 0x20, 0x24, 0x30, 0x40, 0x50, 0x60, 0x70, 0x80,
            0x84, 0x88, 0x8C, 0x92, 0xA0, 0xA4, 0xA8, 0xAC, 0xB2, 0xB4, 0xC0, 0xC8, 0xD0,
            0xD8, 0xDC, 0xE0, 0xE4, 0xE8, 0xF4, 0xF6, 0xFD, 0xFE, 0x28, 0x38, 0x3C, 0x9E, 0xF0};
        int op = ops[below(ops.length)] + below(4);
        op = op > 0xF7 || op < 0xF0 ? op : op & 0xF5;
        return new int[] {op & 255, below(8), below(3) == 0 ? 0 : below(8), below(16)};
    }

    private static void program(int run) {
        MixBench m = new MixBench();
        Model model = new Model();
        for (int k = 0; k < 8; k++) {
            setBoth(m, model, k, number());
        }
        for (int i = 0; i < 60; i++) {
            putBoth(m, model, 4 * i, likelyInstruction());
        }
        putBoth(m, model, 240, new int[] {0, 0, 1, below(8)});
        putBoth(m, model, 244, new int[] {0, 0, 0, 0});
        for (int i = 0; i < 16; i++) {
            String what = "program " + run + ", go " + i;
            int from = below(3) == 0 ? 4 * below(62) + below(4) : -1 - below(5);
            int n = 1 + below(40);
            Check.due(what, m.go(from, n), model.go(from, n));
            same(what, m, model);
        }
        for (int i = 0; i < model.kept && i < 30; i++) {
            Check.due("program " + run + ": output(" + i + ")", m.output(i), model.output[i]);
        }
    }

    public static void main(String[] args) {
        eachOp();
        awkwardPairs();
        loadsAndStores();
        for (int run = 0; run < 1000; run++) {
            program(run);
        }
        Check.end("ModelTest");
    }
}
