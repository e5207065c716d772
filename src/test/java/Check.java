import java.util.NoSuchElementException;

/** What the tests have in common: they say what is wrong, and end with 1 if something was. */
final class Check {
    static final int NOTHING = 0;
    static final int NO_SUCH_ELEMENT = 1;
    static final int OUT_OF_BOUNDS = 2;
    static final int ILLEGAL_ARGUMENT = 3;
    static final int OTHER = 4;

    interface Call {
        void run();
    }

    private static int wrong = 0;
    private static int asked = 0;

    private Check() {
    }

    static void due(String what, long got, long want) {
        asked++;
        if (got != want) {
            wrong++;
            if (wrong <= 50) {
                System.out.println(what + " answered " + got + ", due is " + want);
            }
        }
    }

    static void dueThrow(String what, int want, Call call) {
        due(what + " throws", thrownBy(call), want);
    }

    static int thrownBy(Call call) {
        try {
            call.run();
            return NOTHING;
        } catch (RuntimeException e) {
            Class<?> kind = e.getClass();
            return kind == NoSuchElementException.class ? NO_SUCH_ELEMENT
                : kind == IndexOutOfBoundsException.class ? OUT_OF_BOUNDS
                : kind == IllegalArgumentException.class ? ILLEGAL_ARGUMENT : OTHER;
        }
    }

    /** A name's number, as the assembler knows it. */
    static int number(String name) {
        int number = 0;
        for (int i = 0; i < name.length(); i++) {
            number = 27 * number + (name.charAt(i) - 'A' + 1);
        }
        return number;
    }

    static int put(MixBench m, String name, int x, int y, int z) {
        return m.put(number(name), x, y, z);
    }

    /** An INSTRUCTION by its bytes, put where the place is, for those that have no name. */
    static void putBytes(MixBench m, int a, int op, int x, int y, int z) {
        long word = (op & 255L) << 24 | (x & 255L) << 16 | (y & 255L) << 8 | z & 255L;
        int shift = (a & 4) == 0 ? 32 : 0;
        long old = m.peek(a);
        m.poke(a, old & ~(0xFFFFFFFFL << shift) | word << shift);
    }

    static void end(String test) {
        System.out.println(test + ": " + asked + " answers, " + wrong + " wrong");
        if (wrong != 0 || asked == 0) {
            System.exit(1);
        }
    }
}
