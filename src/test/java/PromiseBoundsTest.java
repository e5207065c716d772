/**
 * Each bound that the promises name: the last value on either side of it, all that an
 * allowed call changes, and that a refused one changes nothing.
 */
public final class PromiseBoundsTest {
    private static final long MIN = Long.MIN_VALUE;
    private static final long MAX = Long.MAX_VALUE;
    private static final int LEAST = Integer.MIN_VALUE;
    private static final int MOST = Integer.MAX_VALUE;
    private static final int[] NO_ADDRESSES = {-1, -4, LEAST, 16384, 16385, 32768, MOST};

    /** A machine in which little is 0 any more: it has run, has two bytes of OUTPUT and halted at 552. */
    private static void busy(MixBench m) {
        m.set(0, -5);
        m.set(1, 0x141);
        m.set(2, MIN);
        m.set(254, 254);
        m.set(255, MAX);
        m.poke(0, 0x0102030405060708L);
        m.poke(16383, -9);
        m.at(512);
        for (int k = 0; k < 8; k++) {
            Check.put(m, "PUTI", k, 0, 10 + k);
        }
        Check.put(m, "TRAP", 0, 1, 1);
        Check.put(m, "TRAP", 0, 1, 0);
        Check.put(m, "HALT", 0, 0, 0);
        m.go(512, 1000);
        m.spend(7);
        m.at(100);
    }

    private static void busyAtTheEnd(MixBench m) {
        busy(m);
        m.at(16383);
        Check.put(m, "SWYM", 1, 2, 3);
    }

    private static void change(String what, State.Story call, String want) {
        State.dueChanges(what, PromiseBoundsTest::busy, call, want);
    }

    private static void refused(String what, int kind, State.Story call) {
        State.dueRefusal(what, kind, PromiseBoundsTest::busy, call);
    }

    /** "An object is used for at most 512 calls." */
    private static void theLastCall() {
        MixBench m = new MixBench();
        for (int i = 0; i < 511; i++) {
            m.set(i % 256, i);
        }
        Check.due("the 512th call", m.get(254), 510);
    }

    /** "All is 0; the place is 0." */
    private static void aNewObject() {
        MixBench m = new MixBench();
        for (int k : new int[] {0, 255, 256, 263}) {
            Check.due("new get(" + k + ")", m.get(k), 0);
        }
        for (int a : new int[] {0, 8, 16376, 16383}) {
            Check.due("new peek(" + a + ")", m.peek(a), 0);
        }
        for (int what = 0; what < 7; what++) {
            Check.due("new count(" + what + ")", m.count(what), 0);
        }
        Check.due("new tally(0)", m.tally(0), 0);
        Check.due("new tally(255)", m.tally(255), 0);
        Check.due("new mark()", m.mark(), 0);
        Check.due("the first spend(0)", m.spend(0), 0);
        State.dueRefusal("new output(0)", Check.OUT_OF_BOUNDS, other -> { }, other -> other.output(0));
        Check.put(m, "INCL", 0, 0, 1);
        Check.due("the first put comes to 0", m.peek(0), 0xE700000100000000L);
        Check.due("the first go(-1, 1)", m.go(-1, 1), 0);
        Check.due("it began at 0", m.count(0) * 10 + m.get(0), 41);
    }

    /** "Of two exceptions of put() NoSuchElementException is thrown; nothing is put then." */
    private static void twoExceptions() {
        State.dueRefusal("no name, and the place is 16,384", Check.NO_SUCH_ELEMENT,
            PromiseBoundsTest::busyAtTheEnd, m -> m.put(0, 1, 2, 3));
        State.dueRefusal("a name, and the place is 16,384", Check.OUT_OF_BOUNDS,
            PromiseBoundsTest::busyAtTheEnd, m -> Check.put(m, "ADD", 1, 2, 3));
        refused("no name, and the place is 100", Check.NO_SUCH_ELEMENT, m -> m.put(0, 1, 2, 3));
    }

    /** "REGISTER k is v: what it was. k is not 0 .. 255." */
    private static void set() {
        for (int k : new int[] {0, 255}) {
            MixBench m = new MixBench();
            Check.due("set(" + k + ", MIN)", m.set(k, MIN), 0);
            Check.due("set(" + k + ", MAX)", m.set(k, MAX), MIN);
            Check.due("set(" + k + ", -1)", m.set(k, -1), MAX);
            Check.due("set(" + k + ", 0)", m.set(k, 0), -1);
            Check.due("set(" + k + ", 0) again", m.set(k, 0), 0);
            change("set(" + k + ", 77)", other -> other.set(k, 77), "get(" + k + ")");
        }
        for (int k : new int[] {-1, -256, LEAST, 256, 257, 263, 264, 511, 512, MOST}) {
            refused("set(" + k + ", 3)", Check.NO_SUCH_ELEMENT, m -> m.set(k, 3));
        }
    }

    /** "REGISTER k, or SPECIAL k - 256. k is not 0 .. 263." */
    private static void get() {
        MixBench m = new MixBench();
        busy(m);
        Check.due("get(0)", m.get(0), -5);
        Check.due("get(255)", m.get(255), MAX);
        for (int k = 0; k < 8; k++) {
            Check.due("get(256 + " + k + ")", m.get(256 + k), 10 + k);
        }
        for (int k : new int[] {0, 255, 256, 263}) {
            change("get(" + k + ")", other -> other.get(k), "");
        }
        for (int k : new int[] {-1, LEAST, 264, 265, 512, MOST}) {
            refused("get(" + k + ")", Check.NO_SUCH_ELEMENT, other -> other.get(k));
        }
    }

    /** "M8[a] is v: what it was. IndexOutOfBoundsException: BEYOND." */
    private static void poke() {
        MixBench m = new MixBench();
        Check.due("poke(0, MIN)", m.poke(0, MIN), 0);
        Check.due("poke(7, -1)", m.poke(7, -1), MIN);
        Check.due("poke(8, 5)", m.poke(8, 5), 0);
        Check.due("poke(16376, MAX)", m.poke(16376, MAX), 0);
        Check.due("poke(16383, 1)", m.poke(16383, 1), MAX);
        Check.due("poke(16375, 2)", m.poke(16375, 2), 0);
        int[][] places = {{0, 0}, {7, 0}, {8, 8}, {16375, 16368}, {16376, 16376}, {16383, 16376}};
        for (int[] place : places) {
            change("poke(" + place[0] + ", 77)", other -> other.poke(place[0], 77), "peek(" + place[1] + ")");
        }
        for (int a : NO_ADDRESSES) {
            refused("poke(" + a + ", 3)", Check.OUT_OF_BOUNDS, other -> other.poke(a, 3));
        }
    }

    /** "M8[a]. IndexOutOfBoundsException: BEYOND." */
    private static void peek() {
        MixBench m = new MixBench();
        busy(m);
        for (int a = 0; a < 8; a++) {
            Check.due("peek(" + a + ")", m.peek(a), 0x0102030405060708L);
            Check.due("peek(16376 + " + a + ")", m.peek(16376 + a), -9);
        }
        Check.due("peek(8)", m.peek(8), 0);
        Check.due("peek(16375)", m.peek(16375), 0);
        change("peek(0)", other -> other.peek(0), "");
        change("peek(16383)", other -> other.peek(16383), "");
        for (int a : NO_ADDRESSES) {
            refused("peek(" + a + ")", Check.OUT_OF_BOUNDS, other -> other.peek(a));
        }
    }

    /** "The place is a without its low 2 bits: that. IndexOutOfBoundsException: BEYOND." */
    private static void at() {
        int[][] places = {{0, 0}, {1, 0}, {3, 0}, {4, 4}, {7, 4}, {16379, 16376}, {16380, 16380}, {16383, 16380}};
        MixBench m = new MixBench();
        for (int[] place : places) {
            Check.due("at(" + place[0] + ")", m.at(place[0]), place[1]);
            Check.due("the place after at(" + place[0] + ")", m.count(4), place[1]);
            change("at(" + place[0] + ")", other -> other.at(place[0]), "count(4)");
        }
        for (int a : NO_ADDRESSES) {
            refused("at(" + a + ")", Check.OUT_OF_BOUNDS, other -> other.at(a));
        }
        busyAtTheEnd(m);
        Check.due("the place is 16,384", m.count(4), 16384);
        Check.dueThrow("at(16384) from there", Check.OUT_OF_BOUNDS, () -> m.at(16384));
        Check.due("the place stays 16,384", m.count(4), 16384);
        Check.due("at(16380) from there", m.at(16380), 16380);
    }

    /** "That name's number and the low 8 bits of x, y, z is put to the place, which is 4 more then." */
    private static void put() {
        int[][] bytes = {{0, 0}, {1, 1}, {127, 127}, {128, 128}, {255, 255}, {256, 0}, {257, 1}, {-1, 255},
            {-128, 128}, {-256, 0}, {-257, 255}, {LEAST, 0}, {MOST, 255}};
        for (int[] b : bytes) {
            MixBench m = new MixBench();
            Check.due("put X " + b[0], Check.put(m, "MUL", b[0], 0, 0), 0x18);
            Check.put(m, "MUL", 0, b[0], 0);
            Check.put(m, "MUL", 0, 0, b[0]);
            Check.due("X, Y of " + b[0], m.peek(0), 0x1800000018000000L | (long) b[1] << 48 | b[1] << 8);
            Check.due("Z of " + b[0], m.peek(8), 0x1800000000000000L | (long) b[1] << 32);
            Check.due("the place", m.count(4), 12);
        }
        change("put at 100", m -> Check.put(m, "ADD", 1, 2, 3), "peek(96) count(4)");
        change("put at 16,376", m -> {
            m.at(16376);
            Check.put(m, "ADD", 1, 2, 3);
        }, "peek(16376) count(4)");
        change("put at 16,380", m -> {
            m.at(16380);
            Check.put(m, "ADD", 1, 2, 3);
        }, "peek(16376) count(4)");
    }

    /** "IndexOutOfBoundsException: the place is 16,384." */
    private static void putBehindTheEnd() {
        MixBench m = new MixBench();
        m.at(16376);
        Check.due("put at 16,376", Check.put(m, "ADD", 1, 2, 3), 0x20);
        Check.due("the place is 16,380", m.count(4), 16380);
        Check.due("put at 16,380", Check.put(m, "SUB", 4, 5, 6), 0x24);
        Check.due("the place is 16,384", m.count(4), 16384);
        Check.dueThrow("put at 16,384", Check.OUT_OF_BOUNDS, () -> Check.put(m, "MUL", 7, 8, 9));
        Check.dueThrow("put at 16,384 again", Check.OUT_OF_BOUNDS, () -> Check.put(m, "MUL", 7, 8, 9));
        Check.due("the place stays", m.count(4), 16384);
        Check.due("the last octa", m.peek(16383), 0x2001020324040506L);
        Check.due("the first octa", m.peek(0), 0);
        m.at(0);
        Check.due("put at 0", Check.put(m, "MUL", 7, 8, 9), 0x18);
        Check.due("the first octa then", m.peek(0), 0x1807080900000000L);
    }

    /** "NoSuchElementException: no such name"; a name has 1 to 6 letters. */
    private static void putOfNoName() {
        int zzzzzz = 27 * 27 * 27 * 27 * 27 * 27 - 1;
        int[] none = {0, -1, LEAST, MOST, 1, 26, 27, 28, zzzzzz, zzzzzz + 1, zzzzzz + 2, -Check.number("ADD"),
            Check.number("ADD") * 27, Check.number("ADD") - 1, Check.number("ADD") + 2, Check.number("DADDUI") * 27,
            Check.number("DADDUI") * 27 + 9, Check.number("DADDUI") + 1, Check.number("DADDU") - 1};
        for (int name : none) {
            refused("put(" + name + ")", Check.NO_SUCH_ELEMENT, m -> m.put(name, 1, 2, 3));
        }
        MixBench m = new MixBench();
        Check.due("a name of 2 letters", Check.put(m, "BN", 0, 0, 0), 0x40);
        Check.due("a name of 6 letters", Check.put(m, "DADDUI", 0, 0, 0), 0x29);
        Check.due("the other name of 6 letters", Check.put(m, "ANDNML", 0, 0, 0), 0xEE);
        Check.due("the lowest name, BN", Check.number("BN"), 68);
    }

    /** A machine with an INSTRUCTION at 1,020 that leaps to itself, so that go() does just n of them. */
    private static MixBench looping() {
        MixBench m = new MixBench();
        m.at(1020);
        Check.put(m, "BZ", 9, 0, 0);
        return m;
    }

    /** "At most n INSTRUCTIONS, 1 .. 1,000. IllegalArgumentException: another n." */
    private static void goWithWrongN() {
        for (int n : new int[] {1, 2, 999, 1000}) {
            MixBench m = looping();
            Check.due("go(1020, " + n + ")", m.go(1020, n), 0);
            Check.due("so many were done", m.tally(0x42), n);
            Check.due("and counted", m.count(6), n);
        }
        for (int n : new int[] {0, -1, -1000, LEAST, 1001, 1002, 65537, MOST}) {
            refused("go(-1, " + n + ")", Check.ILLEGAL_ARGUMENT, m -> m.go(-1, n));
            refused("go(0, " + n + ")", Check.ILLEGAL_ARGUMENT, m -> m.go(0, n));
            refused("go(16384, " + n + ")", Check.ILLEGAL_ARGUMENT, m -> m.go(16384, n));
        }
    }

    /** "From PC on (pc without its low 2 bits, or with pc below 0 where it stopped)." */
    private static void goFrom() {
        int[][] starts = {{0, 0}, {3, 0}, {4, 4}, {7, 4}, {16380, 16380}, {16383, 16380}};
        for (int[] start : starts) {
            MixBench m = new MixBench();
            m.at(start[1]);
            Check.put(m, "SWYM", 0, 0, 0);
            Check.due("go(" + start[0] + ", 1)", m.go(start[0], 1), 0);
            Check.due("the PC behind go(" + start[0] + ", 1)", m.count(0), start[1] + 4);
        }
        int[][] beyond = {{16384, 16384}, {16387, 16384}, {16388, 16388}, {MOST - 3, MOST - 3}, {MOST, MOST - 3}};
        for (int[] start : beyond) {
            MixBench m = new MixBench();
            busy(m);
            Check.due("go(" + start[0] + ", 1000)", m.go(start[0], 1000), 3);
            Check.due("the PC there", m.count(0), start[1]);
            change("go(" + start[0] + ", 1)", other -> other.go(start[0], 1), "count(0)");
        }
        for (int pc : new int[] {-1, -2, -4, -16384, LEAST}) {
            MixBench m = looping();
            Check.due("the first go(1020, 1)", m.go(1020, 1), 0);
            Check.due("go(" + pc + ", 1)", m.go(pc, 1), 0);
            Check.due("it went on at 1,020", m.tally(0x42), 2);
        }
    }

    /** "Where it stopped": behind what was done, and at what was not. */
    private static void goOn() {
        MixBench m = new MixBench();
        m.at(1020);
        Check.put(m, "NOP", 0, 0, 0);
        Check.putBytes(m, 1024, 0xFF, 0, 0, 0);
        Check.due("n is done", m.go(1020, 1), 0);
        Check.due("PC", m.count(0), 1024);
        for (int i = 0; i < 3; i++) {
            Check.due("ILLEGAL", m.go(-1, 1000), 2);
            Check.due("PC stays at ILLEGAL", m.count(0), 1024);
        }
        Check.putBytes(m, 1024, 0x81, 9, 9, 0);
        m.set(9, 16384);
        for (int i = 0; i < 3; i++) {
            Check.due("BEYOND", m.go(-1, 1000), 3);
            Check.due("PC stays at BEYOND", m.count(0), 1024);
        }
        m.set(9, 16383);
        Check.due("the same with an M that there is", m.go(-1, 1), 0);
        Check.due("PC", m.count(0), 1028);
        for (int i = 1; i < 4; i++) {
            Check.due("HALT", m.go(-1, 1000), 1);
            Check.due("PC stays at HALT", m.count(0), 1028);
            Check.due("each HALT counts", m.tally(0), i);
        }
        m.poke(1028, 0x81090000FD000000L);
        Check.due("the HALT that is another INSTRUCTION now", m.go(-1, 1), 0);
    }

    /** "0 there are more, 1 HALT, 2 ILLEGAL, 3 BEYOND": by the n-th, or only by the next. */
    private static void theLastOfN() {
        int[][] lasts = {{0x00, 1}, {0x01, 2}, {0xFF, 2}};
        for (int[] last : lasts) {
            MixBench m = new MixBench();
            Check.put(m, "NOP", 0, 0, 0);
            Check.put(m, "NOP", 0, 0, 0);
            Check.putBytes(m, 8, last[0], 0, 0, 0);
            Check.due("2 before OP " + last[0], m.go(0, 2), 0);
            Check.due("PC at OP " + last[0], m.count(0), 8);
            Check.due("3 with OP " + last[0], m.go(0, 3), last[1]);
            Check.due("4 with OP " + last[0], m.go(0, 4), last[1]);
        }
        MixBench m = new MixBench();
        m.at(16376);
        Check.put(m, "NOP", 0, 0, 0);
        Check.put(m, "NOP", 0, 0, 0);
        Check.due("2 before the end of the MEMORY", m.go(16376, 2), 0);
        Check.due("PC is 16,384", m.count(0), 16384);
        Check.due("3 over the end of the MEMORY", m.go(16376, 3), 3);
        Check.due("PC stays 16,384", m.count(0), 16384);
        Check.due("the NOPs were done", m.tally(0xFD), 4);
    }

    /** "The sum over all REGISTERS k of their numbers times (2 * k + 1) * $9E3779B97F4A7C15 (64 bits)." */
    private static void mark() {
        long factor = 0x9E3779B97F4A7C15L;
        for (int k = 0; k < 256; k++) {
            MixBench m = new MixBench();
            m.set(k, 1);
            Check.due("mark of 1 in " + k, m.mark(), (2 * k + 1) * factor);
            m.set(k, MIN);
            Check.due("mark of MIN in " + k, m.mark(), MIN);
        }
        MixBench m = new MixBench();
        m.set(0, -1);
        m.set(255, -1);
        Check.due("the mark wraps around", m.mark(), -512 * factor);
        m.set(0, 511);
        Check.due("the mark comes back to 0", m.mark(), 0);
        MixBench other = new MixBench();
        for (int k = 0; k < 8; k++) {
            Check.put(other, "PUTI", k, 0, 200);
        }
        other.go(0, 8);
        Check.due("the SPECIALS are not in the mark", other.mark(), 0);
        change("mark()", MixBench::mark, "");
    }

    /** "The TALLY of an OP. op is not 0 .. 255"; FF is never done. */
    private static void tally() {
        MixBench m = new MixBench();
        Check.put(m, "GET", 0, 0, 0);
        Check.due("GET and HALT", m.go(0, 2), 1);
        Check.due("tally(0)", m.tally(0), 1);
        Check.due("tally(254)", m.tally(254), 1);
        Check.due("tally(255)", m.tally(255), 0);
        change("tally(0)", other -> other.tally(0), "");
        change("tally(255)", other -> other.tally(255), "");
        for (int op : new int[] {-1, -256, LEAST, 256, 257, 512, MOST}) {
            refused("tally(" + op + ")", Check.NO_SUCH_ELEMENT, other -> other.tally(op));
        }
    }

    /** "n more OOPS, -1,000 .. 1,000, are counted: OOPS then. IllegalArgumentException: another n." */
    private static void spend() {
        MixBench m = new MixBench();
        int[][] spent = {{-1000, -1000}, {-999, -1999}, {-1, -2000}, {0, -2000}, {1, -1999}, {999, -1000}, {1000, 0},
            {1000, 1000}};
        for (int[] row : spent) {
            Check.due("spend(" + row[0] + ")", m.spend(row[0]), row[1]);
            Check.due("OOPS after it", m.count(1), row[1]);
        }
        Check.due("HALT", m.go(0, 1), 1);
        Check.due("OOPS of HALT come to it", m.spend(0), 1005);
        change("spend(0)", other -> other.spend(0), "");
        change("spend(1000)", other -> other.spend(1000), "count(1)");
        change("spend(-1000)", other -> other.spend(-1000), "count(1)");
        for (int n : new int[] {-1001, -1002, LEAST, 1001, 1002, MOST}) {
            refused("spend(" + n + ")", Check.ILLEGAL_ARGUMENT, other -> other.spend(n));
        }
    }

    /** "Byte i of the OUTPUT. IndexOutOfBoundsException: there is none." */
    private static void output() {
        MixBench m = new MixBench();
        busy(m);
        Check.due("output(0)", m.output(0), 0x41);
        Check.due("output(1)", m.output(1), 0xFB);
        change("output(1)", other -> other.output(1), "");
        for (int i : new int[] {-1, LEAST, 2, 3, 499, 500, 501, MOST}) {
            refused("output(" + i + ")", Check.OUT_OF_BOUNDS, other -> other.output(i));
        }
        MixBench empty = new MixBench();
        for (int i : new int[] {-1, 0, 1, 499, 500}) {
            Check.dueThrow("output(" + i + ") of none", Check.OUT_OF_BOUNDS, () -> empty.output(i));
        }
    }

    /** Register 4 is 1 at first and 1 more behind each of so many bytes of OUTPUT. */
    private static void writing(MixBench m, int bytes) {
        m.set(4, 1);
        m.at(0);
        Check.put(m, "TRAP", 0, 1, 4);
        Check.put(m, "INCL", 4, 0, 1);
        Check.put(m, "BACK", 255, 255, 254);
        m.go(0, 1);
        for (int left = 3 * bytes - 3; left > 0; left -= 999) {
            m.go(-1, Math.min(left, 999));
        }
    }

    /** "The low byte of register Z comes to the OUTPUT (of which 500 are kept)." */
    private static void theFullOutput() {
        int[][] kept = {{1, 1}, {255, 255}, {256, 256}, {499, 499}, {500, 500}, {501, 500}, {502, 500}, {1000, 500}};
        for (int[] row : kept) {
            MixBench m = new MixBench();
            writing(m, row[0]);
            int last = row[1] - 1;
            Check.due("bytes kept of " + row[0], m.count(3), row[1]);
            Check.due("output(0) of " + row[0], m.output(0), 1);
            Check.due("output(" + last + ") of " + row[0], m.output(last), row[1] & 255);
            Check.dueThrow("output(" + row[1] + ") of " + row[0], Check.OUT_OF_BOUNDS, () -> m.output(row[1]));
            Check.due("all were done", m.tally(0), row[0]);
            Check.due("all take 5 OOPS", m.count(1), 5L * row[0] + 2 * (row[0] - 1));
        }
        State.dueChanges("the 500th byte", m -> writing(m, 499), m -> m.go(-1, 3),
            "get(4) tally(0) tally(231) tally(241) count(1) count(3) count(5) count(6) output(499)");
        State.dueChanges("the 501st byte", m -> writing(m, 500), m -> m.go(-1, 3),
            "get(4) tally(0) tally(231) tally(241) count(1) count(5) count(6)");
    }

    /** "0 PC; 1 OOPS; 2 MEMS; 3 bytes of OUTPUT; 4 the place; 5 TRAIL; 6 the TALLY ... Else -1." */
    private static void count() {
        MixBench m = new MixBench();
        busy(m);
        long[] due = {552, 8 + 15 + 7, 0, 2, 100};
        for (int what = 0; what < due.length; what++) {
            Check.due("count(" + what + ")", m.count(what), due[what]);
        }
        Check.due("count(6)", m.count(6), 3);
        m.poke(552, 0x8D09090000000000L);
        Check.due("an LDO", m.go(-1, 1), 0);
        Check.due("count(2)", m.count(2), 1);
        for (int what = 0; what < 7; what++) {
            int one = what;
            change("count(" + what + ")", other -> other.count(one), "");
        }
        for (int what : new int[] {-1, -2, LEAST, 7, 8, 256, MOST}) {
            Check.due("count(" + what + ")", m.count(what), -1);
            change("count(" + what + ")", other -> other.count(what), "");
        }
    }

    /** "6 the TALLY of the OP that was done last, as it was then (0 at first)." */
    private static void theLastTally() {
        MixBench m = new MixBench();
        Check.due("count(6) at first", m.count(6), 0);
        Check.putBytes(m, 0, 0xFF, 0, 0, 0);
        Check.due("ILLEGAL", m.go(0, 1), 2);
        Check.due("count(6) when nothing was done", m.count(6), 0);
        m.at(0);
        int[] due = {1, 2, 1, 3, 2, 1};
        String[] names = {"NOP", "NOP", "INCL", "NOP", "INCL", "HALT"};
        for (String name : names) {
            Check.put(m, name, 0, 0, 0);
        }
        m.go(0, 1);
        for (int i = 0; i < due.length; i++) {
            Check.due("count(6) of " + names[i] + " as number " + i, m.count(6), due[i]);
            m.go(-1, 1);
        }
        Check.due("count(6) of the second HALT", m.count(6), 2);
        m.go(16384, 1);
        Check.due("count(6) after a BEYOND", m.count(6), 2);
        m.spend(5);
        Check.due("count(6) after a spend", m.count(6), 2);
    }

    public static void main(String[] args) {
        theLastCall();
        aNewObject();
        twoExceptions();
        set();
        get();
        poke();
        peek();
        at();
        put();
        putBehindTheEnd();
        putOfNoName();
        goWithWrongN();
        goFrom();
        goOn();
        theLastOfN();
        mark();
        tally();
        spend();
        output();
        theFullOutput();
        count();
        theLastTally();
        Check.end("PromiseBoundsTest");
    }
}
