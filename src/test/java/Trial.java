/** One INSTRUCTION on a machine that is made for it, which bench is then. */
class Trial {
    static final long MIN = Long.MIN_VALUE;
    static final long MAX = Long.MAX_VALUE;
    static final int HERE = 1024;
    static final int R_D = 1;
    static final int R_H = 3;
    static final int R_M = 5;
    static final int R_R = 6;
    static final int R_A = 7;

    static MixBench bench;

    static void special(int k, long v) {
        bench.set(250, v);
        Check.putBytes(bench, 8192, 0xF6, k, 0, 250);
        Check.due("PUT", bench.go(8192, 1), 0);
        bench.set(250, 0);
    }

    /** name X=1, Y=2, Z=3 on a new machine with y and z. */
    static String run(String name, long y, long z) {
        return runOn(new MixBench(), name, y, z);
    }

    static String runOn(MixBench m, String name, long y, long z) {
        bench = m;
        m.set(2, y);
        m.set(3, z);
        m.at(HERE);
        Check.put(m, name, 1, 2, 3);
        Check.due(name + ": go", m.go(HERE, 1), 0);
        return name + " on " + y + ", " + z;
    }

    static void is(String name, long y, long z, long x, long events) {
        String what = run(name, y, z);
        Check.due(what, bench.get(1), x);
        Check.due(what + ": rA", bench.get(256 + R_A), events);
        Check.due(what + ": PC", bench.count(0), HERE + 4);
    }
}
