/** The promises 1 to 13, one after the other. */
public final class FaceTest {
    private static final int[] WRONG_INTS = {-1, -2, -256, Integer.MIN_VALUE, Integer.MAX_VALUE};
    private static final int[] BEYOND = {-1, -8, 16384, 16385, 20000, Integer.MIN_VALUE, Integer.MAX_VALUE};

    private static void newObject() {
        MixBench m = new MixBench();
        for (int k = 0; k < 264; k++) {
            Check.due("new get(" + k + ")", m.get(k), 0);
        }
        m = new MixBench();
        for (int op = 0; op < 256; op++) {
            Check.due("new tally(" + op + ")", m.tally(op), 0);
        }
        for (int what = 0; what < 7; what++) {
            Check.due("new count(" + what + ")", m.count(what), 0);
        }
        MixBench other = new MixBench();
        for (int a = 0; a < 16384; a += 8) {
            if (a % 4096 == 0) {
                other = new MixBench();
            }
            Check.due("new peek(" + a + ")", other.peek(a), 0);
        }
        Check.due("new mark()", m.mark(), 0);
        Check.dueThrow("new output(0)", Check.OUT_OF_BOUNDS, () -> new MixBench().output(0));
        Check.due("new go(-1, 1)", m.go(-1, 1), 1);
        Check.due("new count(0)", m.count(0), 0);
        m.set(3, 9);
        Check.due("objects share nothing", new MixBench().get(3), 0);
    }

    private static void setAndGet() {
        MixBench m = new MixBench();
        Check.due("set(0, 5)", m.set(0, 5), 0);
        Check.due("set(0, -7)", m.set(0, -7), 5);
        Check.due("set(255, MIN)", m.set(255, Long.MIN_VALUE), 0);
        Check.due("get(0)", m.get(0), -7);
        Check.due("get(255)", m.get(255), Long.MIN_VALUE);
        Check.due("get(1)", m.get(1), 0);
        Check.due("get(256)", m.get(256), 0);
        Check.due("a set leaves TRAIL", m.count(5), 0);
        Check.dueThrow("set(256)", Check.NO_SUCH_ELEMENT, () -> m.set(256, 1));
        Check.dueThrow("set(263)", Check.NO_SUCH_ELEMENT, () -> m.set(263, 1));
        Check.dueThrow("get(264)", Check.NO_SUCH_ELEMENT, () -> m.get(264));
        Check.dueThrow("get(263)", Check.NOTHING, () -> m.get(263));
        for (int k : WRONG_INTS) {
            Check.dueThrow("set(" + k + ")", Check.NO_SUCH_ELEMENT, () -> m.set(k, 1));
            Check.dueThrow("get(" + k + ")", Check.NO_SUCH_ELEMENT, () -> m.get(k));
        }
        m.set(9, 0x1122334455667788L);
        Check.putBytes(m, 0, 0xF6, 7, 0, 9);
        Check.putBytes(m, 4, 0xF7, 0, 0, 200);
        Check.due("PUT, PUTI", m.go(0, 2), 0);
        Check.due("get(263)", m.get(263), 0x1122334455667788L);
        Check.due("get(256)", m.get(256), 200);
    }

    private static void pokeAndPeek() {
        MixBench m = new MixBench();
        Check.due("poke(8)", m.poke(8, 0x0102030405060708L), 0);
        for (int a = 8; a < 16; a++) {
            Check.due("peek(" + a + ")", m.peek(a), 0x0102030405060708L);
        }
        Check.due("peek(7)", m.peek(7), 0);
        Check.due("peek(16)", m.peek(16), 0);
        Check.due("poke(15)", m.poke(15, -1), 0x0102030405060708L);
        Check.due("peek(8)", m.peek(8), -1);
        Check.due("poke(16383)", m.poke(16383, 77), 0);
        Check.due("peek(16376)", m.peek(16376), 77);
        Check.due("peek(16375)", m.peek(16375), 0);
        Check.due("poke(0)", m.poke(0, 3), 0);
        Check.due("peek(7)", m.peek(7), 3);
        for (int a : BEYOND) {
            Check.dueThrow("poke(" + a + ")", Check.OUT_OF_BOUNDS, () -> m.poke(a, 1));
            Check.dueThrow("peek(" + a + ")", Check.OUT_OF_BOUNDS, () -> m.peek(a));
        }
        Check.due("no MEMS for a poke", m.count(2), 0);
    }

    private static void at() {
        MixBench m = new MixBench();
        Check.due("at(0)", m.at(0), 0);
        Check.due("at(3)", m.at(3), 0);
        Check.due("at(4)", m.at(4), 4);
        Check.due("at(1027)", m.at(1027), 1024);
        Check.due("count(4)", m.count(4), 1024);
        for (int a : BEYOND) {
            Check.dueThrow("at(" + a + ")", Check.OUT_OF_BOUNDS, () -> m.at(a));
        }
        Check.due("a wrong at leaves the place", m.count(4), 1024);
        Check.due("at(16383)", m.at(16383), 16380);
        Check.due("at leaves the PC", m.count(0), 0);
    }

    private static void put() {
        MixBench m = new MixBench();
        Check.due("put MUL", Check.put(m, "MUL", 1, 2, 3), 0x18);
        Check.due("count(4)", m.count(4), 4);
        Check.due("peek(0)", m.peek(0), 0x1801020300000000L);
        Check.due("put ORI", Check.put(m, "ORI", -1, 256, 0x1FE), 0xC1);
        Check.due("peek(0)", m.peek(0), 0x18010203C1FF00FEL);
        Check.due("put leaves the PC", m.count(0), 0);
        m.at(16380);
        Check.due("put at the end", Check.put(m, "SWYM", 1, 1, 1), 0xFD);
        Check.due("the place is the end", m.count(4), 16384);
        Check.dueThrow("put behind the end", Check.OUT_OF_BOUNDS, () -> Check.put(m, "ADD", 1, 1, 1));
        Check.dueThrow("no name behind the end", Check.NO_SUCH_ELEMENT, () -> m.put(1, 1, 1, 1));
        Check.due("the place stays", m.count(4), 16384);
        Check.due("the last word stays", m.peek(16376), 0xFD010101L);
        m.at(8);
        for (int name : new int[] {0, 1, -1, -10056, 27, 10057, Integer.MIN_VALUE, Integer.MAX_VALUE}) {
            Check.dueThrow("put(" + name + ")", Check.NO_SUCH_ELEMENT, () -> m.put(name, 1, 2, 3));
        }
        Check.due("the place stays", m.count(4), 8);
        Check.due("nothing is put", m.peek(8), 0);
    }

    private static void go() {
        MixBench m = new MixBench();
        for (int a = 0; a < 16; a += 4) {
            Check.putBytes(m, a, 0xFD, 0, 0, 0);
        }
        Check.due("go(0, 3)", m.go(0, 3), 0);
        Check.due("count(0)", m.count(0), 12);
        Check.due("go(-1, 1): more", m.go(-1, 1), 0);
        Check.due("go(MIN, 1): HALT", m.go(Integer.MIN_VALUE, 1), 1);
        Check.due("PC stays at HALT", m.count(0), 16);
        Check.due("HALT again", m.go(-5, 1000), 1);
        Check.due("go(7, 1)", m.go(7, 1), 0);
        Check.due("PC is without its low bits", m.count(0), 8);
        for (int n : new int[] {0, -1, 1001, Integer.MIN_VALUE, Integer.MAX_VALUE}) {
            Check.dueThrow("go(4, " + n + ")", Check.ILLEGAL_ARGUMENT, () -> m.go(4, n));
        }
        Check.due("a wrong go leaves PC", m.count(0), 8);
        long trail = m.count(5);
        Check.due("go(16384, 1)", m.go(16384, 1), 3);
        Check.due("PC is beyond", m.count(0), 16384);
        Check.due("go(MAX, 1)", m.go(Integer.MAX_VALUE, 1), 3);
        Check.due("PC is far beyond", m.count(0), 2147483644);
        Check.due("go(-1, 1) beyond", m.go(-1, 1), 3);
        Check.due("nothing was fetched", m.count(5), trail);
        Check.putBytes(m, 16380, 0xFD, 0, 0, 0);
        Check.due("go(16380, 1)", m.go(16383, 1), 0);
        Check.due("go(-1, 1)", m.go(-1, 1), 3);
        Check.due("PC", m.count(0), 16384);
        Check.due("go(16380, 2)", m.go(16380, 2), 3);
        Check.putBytes(m, 32, 0x40, 0, 0, 0);
        Check.putBytes(m, 36, 0x01, 0, 0, 0);
        long oops = m.count(1);
        Check.due("go to ILLEGAL", m.go(32, 2), 2);
        Check.due("PC stays at ILLEGAL", m.count(0), 36);
        Check.due("ILLEGAL takes no time", m.count(1), oops + 1);
        Check.putBytes(m, 40, 0x42, 0, 0, 0);
        oops = m.count(1);
        Check.due("a loop of 1000", m.go(40, 1000), 0);
        Check.due("1000 were done", m.tally(0x42), 1000);
        Check.due("3000 OOPS", m.count(1), oops + 3000);
    }

    private static void mark() {
        MixBench m = new MixBench();
        m.set(0, 1);
        Check.due("mark of register 0", m.mark(), 0x9E3779B97F4A7C15L);
        m.set(0, 0);
        m.set(255, 1);
        Check.due("mark of register 255", m.mark(), 511 * 0x9E3779B97F4A7C15L);
        m.set(1, -4);
        Check.due("mark of two", m.mark(), (511 - 12) * 0x9E3779B97F4A7C15L);
        Check.putBytes(m, 0, 0xF7, 0, 0, 9);
        m.go(0, 1);
        Check.due("the SPECIALS are not in the mark", m.mark(), (511 - 12) * 0x9E3779B97F4A7C15L);
    }

    private static void tally() {
        MixBench m = new MixBench();
        Check.put(m, "ADD", 1, 1, 1);
        Check.put(m, "ADDI", 1, 1, 1);
        Check.put(m, "ADD", 1, 1, 1);
        Check.putBytes(m, 12, 0x80, 1, 2, 3);
        Check.putBytes(m, 16, 0xFF, 0, 0, 0);
        m.set(2, -1);
        m.go(0, 1000);
        Check.due("ADD", m.tally(0x20), 2);
        Check.due("ADDI", m.tally(0x21), 1);
        Check.due("a BEYOND is not done", m.tally(0x80), 0);
        Check.due("an ILLEGAL is not done", m.go(16, 1) + m.tally(0xFF), 2);
        m.go(100, 1);
        m.go(100, 1);
        Check.due("HALT", m.tally(0), 2);
        Check.dueThrow("tally(256)", Check.NO_SUCH_ELEMENT, () -> m.tally(256));
        Check.dueThrow("tally(255)", Check.NOTHING, () -> m.tally(255));
        for (int op : WRONG_INTS) {
            Check.dueThrow("tally(" + op + ")", Check.NO_SUCH_ELEMENT, () -> m.tally(op));
        }
    }

    private static void spend() {
        MixBench m = new MixBench();
        Check.due("spend(1000)", m.spend(1000), 1000);
        Check.due("spend(0)", m.spend(0), 1000);
        Check.due("spend(-1000)", m.spend(-1000), 0);
        Check.due("spend(-3)", m.spend(-3), -3);
        Check.due("count(1)", m.count(1), -3);
        for (int n : new int[] {1001, -1001, Integer.MIN_VALUE, Integer.MAX_VALUE}) {
            Check.dueThrow("spend(" + n + ")", Check.ILLEGAL_ARGUMENT, () -> m.spend(n));
        }
        Check.due("a wrong spend leaves OOPS", m.count(1), -3);
        m.go(0, 1);
        Check.due("HALT takes 5", m.count(1), 2);
    }

    private static void output() {
        MixBench m = new MixBench();
        m.set(4, 0x1FE);
        Check.putBytes(m, 0, 0, 0, 1, 4);
        Check.putBytes(m, 4, 0x23, 4, 4, 1);
        Check.putBytes(m, 8, 0xF1, 255, 255, 254);
        Check.due("three steps", m.go(0, 3), 0);
        Check.due("output(0)", m.output(0), 254);
        Check.due("count(3)", m.count(3), 1);
        Check.dueThrow("output(1)", Check.OUT_OF_BOUNDS, () -> m.output(1));
        for (int i : WRONG_INTS) {
            Check.dueThrow("output(" + i + ")", Check.OUT_OF_BOUNDS, () -> m.output(i));
        }
        Check.due("499 bytes", m.go(0, 1000) + m.go(-1, 494), 0);
        Check.due("count(3)", m.count(3), 499);
        m.go(0, 6);
        Check.due("500 are kept", m.count(3), 500);
        Check.due("the TRAPs are done all the same", m.tally(0), 501);
        Check.due("output(1)", m.output(1), 255);
        Check.due("output(2)", m.output(2), 0);
        Check.due("output(499)", m.output(499), (254 + 499) & 255);
        Check.dueThrow("output(500)", Check.OUT_OF_BOUNDS, () -> m.output(500));
        Check.due("PC is behind a full OUTPUT's TRAP", m.go(0, 1) + m.count(0), 4);
    }

    private static void count() {
        MixBench m = new MixBench();
        m.set(1, 3);
        m.set(2, 5);
        m.set(3, 7);
        m.at(20);
        Check.put(m, "ADD", 3, 1, 2);
        Check.put(m, "LDO", 4, 0, 0);
        Check.put(m, "ADD", 3, 3, 3);
        Check.put(m, "NOP", 0, 0, 0);
        m.go(20, 1);
        long trail = ((3 * 31L + 5) * 31 + 7) * 37 + 7;
        Check.due("TRAIL of ADD", m.count(5), trail);
        Check.due("count(6) of ADD", m.count(6), 1);
        m.go(-1, 1);
        trail = trail * 31 * 31 * 31 * 37;
        Check.due("TRAIL of LDO", m.count(5), trail);
        Check.due("count(2)", m.count(2), 1);
        m.go(-1, 1);
        Check.due("count(6) of ADD again", m.count(6), 2);
        m.go(-1, 1);
        Check.due("count(6) of NOP", m.count(6), 1);
        Check.due("count(0)", m.count(0), 36);
        Check.due("count(1)", m.count(1), 4);
        Check.due("count(3)", m.count(3), 0);
        Check.due("count(4)", m.count(4), 36);
        m.go(-1, 1);
        m.go(-1, 1);
        Check.due("count(6) of HALT", m.count(6), 2);
        Check.putBytes(m, 36, 1, 0, 0, 0);
        m.go(-1, 1);
        Check.due("count(6) after an ILLEGAL", m.count(6), 2);
        for (int what : new int[] {7, 8, 100, -1, Integer.MIN_VALUE, Integer.MAX_VALUE}) {
            Check.due("count(" + what + ")", m.count(what), -1);
        }
    }

    private static void trailOfWhatIsNotDone() {
        MixBench m = new MixBench();
        m.set(1, 3);
        m.set(2, -5);
        m.set(3, 7);
        Check.putBytes(m, 0, 0x81, 1, 2, 3);
        Check.putBytes(m, 4, 0xFF, 1, 2, 3);
        Check.due("BEYOND", m.go(0, 1), 3);
        long trail = (-5 * 31L + 7) * 31 + 3;
        Check.due("TRAIL of a BEYOND", m.count(5), trail);
        Check.due("ILLEGAL", m.go(4, 1), 2);
        trail = ((trail * 31 - 5) * 31 + 7) * 31 + 3;
        Check.due("TRAIL of an ILLEGAL", m.count(5), trail);
        Check.due("no MEMS", m.count(2), 0);
        Check.due("no OOPS", m.count(1), 0);
        Check.due("register X stays", m.get(1), 3);
        Check.putBytes(m, 8, 0x63, 1, 2, 3);
        m.go(8, 1);
        trail = ((trail * 31 - 5) * 31 + 7) * 31 + 3;
        Check.due("TRAIL of a CSZI that writes nothing", m.count(5), trail);
        Check.putBytes(m, 12, 0x73, 1, 2, 3);
        m.go(12, 1);
        trail = (((trail * 31 - 5) * 31 + 7) * 31 + 3) * 37 + 3;
        Check.due("TRAIL of a ZSZI", m.count(5), trail);
        Check.due("ZSZI wrote 0", m.get(1), 0);
    }

    public static void main(String[] args) {
        newObject();
        setAndGet();
        pokeAndPeek();
        at();
        put();
        go();
        mark();
        tally();
        spend();
        output();
        count();
        trailOfWhatIsNotDone();
        Check.end("FaceTest");
    }
}
