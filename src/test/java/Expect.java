import java.util.Objects;

/**
 * Counts the answers that are not as due, and ends a test by them. Some tests ask one object more
 * than 512 times, to look at all of its state: the class keeps no count of its calls.
 */
final class Expect {
    private static int wrong = 0;

    private Expect() {
    }

    static void same(String call, Object got, Object due) {
        if (!Objects.equals(got, due)) {
            wrong++;
            System.out.println(call + " answered " + got + ", due is " + due);
        }
    }

    /** The call throws exactly this, and changes nothing that can be asked for. */
    static void thrown(String call, FragmentLog log, Class<?> due, Runnable run) {
        String before = stateOf(log);
        Class<?> got = null;
        try {
            run.run();
        } catch (RuntimeException e) {
            got = e.getClass();
        }
        same(call + " throws", got, due);
        same("the state behind " + call, stateOf(log), before);
    }

    /** All that the calls without effect answer, beside the bytes of the buffer (their checks). */
    static String stateOf(FragmentLog log) {
        StringBuilder state = new StringBuilder();
        for (int what = 0; what <= 5; what++) {
            state.append(log.count(what)).append(' ');
        }
        state.append("check ").append(log.check(1)).append(" first ").append(log.first()).append(" octets");
        for (int k = 0; log.octet(k) != FragmentLog.NONE; k++) {
            state.append(' ').append(log.octet(k));
        }
        state.append(" log");
        for (int k = 0; log.log(k) != FragmentLog.NONE; k++) {
            state.append(' ').append(log.log(k));
        }
        state.append(" told");
        for (int k = 0; log.told(k, 0) != FragmentLog.NONE; k++) {
            state.append(' ').append(log.told(k, 0)).append('/').append(log.told(k, 1));
        }
        return state.toString();
    }

    static String toldBy(FragmentLog log) {
        StringBuilder told = new StringBuilder();
        for (int k = 0; log.told(k, 0) != FragmentLog.NONE; k++) {
            told.append(log.told(k, 0)).append('/').append(log.told(k, 1)).append(' ');
        }
        return told.toString().trim();
    }

    /** The buffer becomes this many bytes: from, from + 1 and so on. */
    static void fill(FragmentLog log, int many, int from) {
        log.erase();
        for (int k = 0; k < many; k += 16) {
            int at = from + k;
            log.feed(Math.min(16, many - k), four(at), four(at + 4), four(at + 8), four(at + 12));
        }
    }

    private static int four(int from) {
        return (from & 255) << 24 | (from + 1 & 255) << 16 | (from + 2 & 255) << 8 | from + 3 & 255;
    }

    static int raw(FragmentLog log, int kind, int many) {
        fill(log, many, kind);
        return log.raw(kind);
    }

    static int append(FragmentLog log, int many) {
        fill(log, many, many);
        return log.append();
    }

    static void end(String test) {
        System.out.println(test + ": " + (wrong == 0 ? "all answers are as due" : wrong + " answers are not as due"));
        if (wrong != 0) {
            System.exit(1);
        }
    }
}
