/**
 * All that can be asked of a machine. One machine may be asked 512 times only, so the same
 * story is told to several, and each is asked a part.
 */
final class State {
    interface Story {
        void tell(MixBench m);
    }

    private static final int REGISTERS = 264;
    private static final int TALLIES = 256;
    private static final int OCTAS = 2048;
    private static final int COUNTS = 7;
    private static final int OUTPUTS = 500;
    private static final int PEEKS_FROM = REGISTERS + TALLIES;
    private static final int COUNTS_FROM = PEEKS_FROM + OCTAS;
    private static final int OUTPUTS_FROM = COUNTS_FROM + COUNTS;
    private static final int ALL = OUTPUTS_FROM + OUTPUTS;
    private static final int ASKED_AT_ONCE = 400;

    private State() {
    }

    private static String question(int i) {
        return i < REGISTERS ? "get(" + i + ")"
            : i < PEEKS_FROM ? "tally(" + (i - REGISTERS) + ")"
            : i < COUNTS_FROM ? "peek(" + 8 * (i - PEEKS_FROM) + ")"
            : i < OUTPUTS_FROM ? "count(" + (i - COUNTS_FROM) + ")"
            : "output(" + (i - OUTPUTS_FROM) + ")";
    }

    private static long answer(MixBench m, int i, long kept) {
        return i < REGISTERS ? m.get(i)
            : i < PEEKS_FROM ? m.tally(i - REGISTERS)
            : i < COUNTS_FROM ? m.peek(8 * (i - PEEKS_FROM))
            : i < OUTPUTS_FROM ? m.count(i - COUNTS_FROM)
            : i - OUTPUTS_FROM < kept ? m.output(i - OUTPUTS_FROM) : -1;
    }

    private static long[] after(Story story) {
        long[] answers = new long[ALL];
        for (int from = 0; from < ALL; from += ASKED_AT_ONCE) {
            MixBench m = new MixBench();
            story.tell(m);
            long kept = m.count(3);
            for (int i = from; i < ALL && i < from + ASKED_AT_ONCE; i++) {
                answers[i] = answer(m, i, kept);
            }
        }
        return answers;
    }

    /** The questions whose answers are others when the second story follows the first. */
    private static String changes(Story first, Story second) {
        long[] old = after(first);
        long[] now = after(m -> {
            first.tell(m);
            second.tell(m);
        });
        StringBuilder changes = new StringBuilder();
        for (int i = 0; i < ALL; i++) {
            if (old[i] != now[i]) {
                changes.append(changes.length() == 0 ? "" : " ").append(question(i));
            }
        }
        return changes.toString();
    }

    /** The second story changes just what is listed, in the order of get, tally, peek, count, output. */
    static void dueChanges(String what, Story first, Story second, String want) {
        String got = changes(first, second);
        if (!got.equals(want)) {
            System.out.println(what + " changed [" + got + "], due is [" + want + "]");
        }
        Check.due(what + ": its changes are due", got.equals(want) ? 1 : 0, 1);
    }

    /** A refused call throws what it should and leaves all as it was. */
    static void dueRefusal(String what, int kind, Story first, Story refused) {
        MixBench m = new MixBench();
        first.tell(m);
        Check.dueThrow(what, kind, () -> refused.tell(m));
        dueChanges(what, first, other -> Check.thrownBy(() -> refused.tell(other)), "");
    }
}
