import java.util.Objects;
import java.util.function.Consumer;

/** Counts the answers that are not as due, and ends a test by them; and writes what tests often write. */
final class Expect {
    private static int wrong = 0;

    private Expect() {
    }

    static void same(String call, Object got, Object due) {
        if (!Objects.equals(got, due)) {
            wrong++;
            System.out.println(call + " answered " + got + ", due is " + due);
        }
    }

    static void thrown(String call, Asked log, Class<?> due, Consumer<Asked> run) {
        Class<?> got = null;
        try {
            run.accept(log);
        } catch (RuntimeException e) {
            got = e.getClass();
        }
        same(call + " throws", got, due);
    }

    /** What was told, as which/bytes. */
    static String toldBy(Asked log) {
        StringBuilder told = new StringBuilder();
        for (int k = 0; log.told(k, 0) != FragmentLog.NONE; k++) {
            told.append(log.told(k, 0)).append('/').append(log.told(k, 1)).append(' ');
        }
        return told.toString().trim();
    }

    /** The buffer becomes this many bytes: from, from + 1 and so on. */
    static void fill(Asked log, int many, int from) {
        log.erase();
        for (int k = 0; k < many; k += 16) {
            int at = from + k;
            log.feed(Math.min(16, many - k), four(at), four(at + 4), four(at + 8), four(at + 12));
        }
    }

    private static int four(int from) {
        return (from & 255) << 24 | (from + 1 & 255) << 16 | (from + 2 & 255) << 8 | from + 3 & 255;
    }

    /** A fragment by hand; its bytes begin with its kind. */
    static int raw(Asked log, int kind, int many) {
        fill(log, many, kind);
        return log.raw(kind);
    }

    /** A record; its bytes begin with their number. */
    static int append(Asked log, int many) {
        fill(log, many, many);
        return log.append();
    }

    /** Cleared to this size, with records by hand in the first block but for so many bytes: how many records. */
    static int leave(Asked log, int size, int left) {
        log.clear(size);
        int many = 0;
        int due = size - left;
        if (due > 400) {
            raw(log, 1, 193);
            due -= 200;
            many++;
        }
        raw(log, 1, due - 7);
        return many + 1;
    }

    static void end(String test) {
        System.out.println(test + ": " + (wrong == 0 ? "all answers are as due" : wrong + " answers are not as due"));
        if (wrong != 0) {
            System.exit(1);
        }
    }
}
