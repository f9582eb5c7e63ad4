import java.util.List;
import java.util.function.Consumer;
import java.util.function.Supplier;
import java.util.function.ToIntBiFunction;

/**
 * "IllegalArgument is thrown where a number is none of those told here. What throws, or is FULL, changes
 * nothing.": every call that can be refused, with the first numbers beyond on either side and the farthest.
 */
final class RefusedTest {
    private static final int NONE = FragmentLog.NONE;
    private static final int FULL = FragmentLog.FULL;
    private static final int LOW = Integer.MIN_VALUE;
    private static final int HIGH = Integer.MAX_VALUE;
    private static final Class<?> ARGUMENT = IllegalArgumentException.class;
    private static final Class<?> STATE = IllegalStateException.class;
    private static final Class<?> INDEX = IndexOutOfBoundsException.class;

    /** A way to make an object, and how many bytes its log has then. */
    private record Made(String name, int bytes, Supplier<Asked> how) {
    }

    private static final List<Made> MADE = List.of(
            new Made("a new object", 0, Asked::new),
            new Made("a lost reader", 300, RefusedTest::lostReader),
            new Made("a reader that told", 150, RefusedTest::readerThatTold),
            new Made("a full log and buffer", 4096, RefusedTest::fullLog));

    /** What shows the state that no call answers: the SIZE, where the READER began, the BUFFER's bytes. */
    private static final List<Consumer<Asked>> AFTER = List.of(
            log -> { },
            log -> log.read(),
            log -> {
                log.read();
                log.read();
                log.read();
            },
            log -> {
                log.append();
                log.read();
            },
            log -> {
                log.erase();
                log.append();
                log.raw(4);
                log.read();
            },
            log -> log.begin(95),
            log -> {
                log.begin(60);
                log.read();
            },
            log -> {
                log.cut(log.count(0) / 2);
                log.append();
                log.read();
                log.read();
            });

    public static void main(String[] args) {
        for (Made made : MADE) {
            Expect.same("bytes of " + made.name, made.how.get().count(0), made.bytes);
            clear(made);
            feed(made);
            checkAndRaw(made);
            put(made);
            cut(made);
            begin(made);
            countAndTold(made);
            asking(made);
        }
        feedMoreThan400();
        fullByAppend();
        fullByRaw();
        refusedFirst();
        Expect.end("RefusedTest");
    }

    private static Asked lostReader() {
        Asked log = new Asked();
        log.clear(100);
        Expect.append(log, 40);
        Expect.append(log, 225);
        Expect.append(log, 0);
        log.begin(101);
        log.put(99, log.log(99) ^ 1);
        Expect.fill(log, 5, 7);
        return log;
    }

    private static Asked readerThatTold() {
        Asked log = new Asked();
        Expect.append(log, 20);
        Expect.append(log, 30);
        Expect.raw(log, 4, 11);
        Expect.append(log, 40);
        Expect.append(log, 7);
        log.put(3, log.log(3) ^ 64);
        log.begin(0);
        log.read();
        return log;
    }

    private static Asked fullLog() {
        Asked log = logOf4070(64);
        Expect.raw(log, 2, 19);
        Expect.fill(log, 400, 9);
        log.read();
        return log;
    }

    private static Asked logOf4070(int size) {
        Asked log = new Asked();
        log.clear(size);
        Expect.fill(log, 400, 1);
        for (int k = 0; k < 10; k++) {
            log.raw(1);
        }
        return log;
    }

    /** Each row of questions goes to a new object: one has 512 answers alone. */
    private static String stateOf(Supplier<Asked> made) {
        StringBuilder state = new StringBuilder();
        Asked log = made.get();
        for (int what = 0; what <= 5; what++) {
            state.append(log.count(what)).append(' ');
        }
        state.append("check ").append(log.check(1)).append(" first ").append(log.first());
        addRow(state, "octets", made, (asked, k) -> asked.octet(k));
        addRow(state, "log", made, (asked, k) -> asked.log(k));
        addRow(state, "which", made, (asked, k) -> asked.told(k, 0));
        addRow(state, "bytes", made, (asked, k) -> asked.told(k, 1));
        return state.toString();
    }

    private static void addRow(StringBuilder state, String name, Supplier<Asked> made,
            ToIntBiFunction<Asked, Integer> ask) {
        state.append(' ').append(name);
        Asked log = made.get();
        int answer = 0;
        for (int k = 0; answer != NONE; k++) {
            if (k % 256 == 255) {
                log = made.get();
            }
            answer = ask.applyAsInt(log, k);
            state.append(' ').append(answer);
        }
    }

    private static Asked both(Supplier<Asked> made, Consumer<Asked> then) {
        Asked log = made.get();
        then.accept(log);
        return log;
    }

    private static void changesNothing(String call, Supplier<Asked> made, Consumer<Asked> refused) {
        for (int k = 0; k < AFTER.size(); k++) {
            Consumer<Asked> after = AFTER.get(k);
            String due = stateOf(() -> both(made, after));
            String got = stateOf(() -> both(() -> both(made, refused), after));
            Expect.same(call + ": the state, with what comes after " + k, got, due);
        }
    }

    private static void throwsAlone(String call, Supplier<Asked> made, Class<?> due, Consumer<Asked> run) {
        Expect.thrown(call, made.get(), due, run);
        changesNothing(call, made, log -> {
            try {
                run.accept(log);
            } catch (RuntimeException e) {
                // Which one it is was looked at above.
            }
        });
    }

    private static void throwsAlone(String call, Made made, Class<?> due, Consumer<Asked> run) {
        throwsAlone(call + " on " + made.name, made.how, due, run);
    }

    private static void clear(Made made) {
        for (int size : new int[] {15, 513, 0, -16, LOW, HIGH}) {
            throwsAlone("2: clear(" + size + ")", made, ARGUMENT, log -> log.clear(size));
        }
    }

    private static void feed(Made made) {
        for (int many : new int[] {-1, 17, LOW, HIGH}) {
            throwsAlone("3: feed(" + many + ")", made, ARGUMENT, log -> log.feed(many, 1, 2, 3, 4));
        }
    }

    private static void checkAndRaw(Made made) {
        for (int kind : new int[] {-1, 256, LOW, HIGH}) {
            throwsAlone("5: check(" + kind + ")", made, ARGUMENT, log -> log.check(kind));
            throwsAlone("7: raw(" + kind + ")", made, ARGUMENT, log -> log.raw(kind));
        }
    }

    private static void put(Made made) {
        for (int place : new int[] {-1, made.bytes, LOW, HIGH}) {
            throwsAlone("8: put(" + place + ", 0)", made, INDEX, log -> log.put(place, 0));
        }
        if (made.bytes > 0) {
            for (int value : new int[] {-1, 256, LOW, HIGH}) {
                throwsAlone("8: put(0, " + value + ")", made, ARGUMENT, log -> log.put(0, value));
            }
        }
    }

    private static void cut(Made made) {
        for (int n : new int[] {-1, made.bytes + 1, LOW, HIGH}) {
            throwsAlone("9: cut(" + n + ")", made, ARGUMENT, log -> log.cut(n));
        }
    }

    private static void begin(Made made) {
        for (int place : new int[] {-1, 4097, LOW, HIGH}) {
            throwsAlone("10: begin(" + place + ")", made, ARGUMENT, log -> log.begin(place));
        }
    }

    private static void countAndTold(Made made) {
        for (int what : new int[] {-1, 6, LOW, HIGH}) {
            throwsAlone("14: count(" + what + ")", made, ARGUMENT, log -> log.count(what));
        }
        for (int what : new int[] {-1, 2, LOW, HIGH}) {
            throwsAlone("15: told(0, " + what + ")", made, ARGUMENT, log -> log.told(0, what));
            throwsAlone("15: told(-1, " + what + ")", made, ARGUMENT, log -> log.told(-1, what));
        }
    }

    /** What only asks changes nothing either, and answers NONE for what is not there. */
    private static void asking(Made made) {
        for (int k : new int[] {-1, 4096, LOW, HIGH}) {
            Expect.same("12: octet(" + k + ") on " + made.name, made.how.get().octet(k), NONE);
            Expect.same("15: told(" + k + ", 0) on " + made.name, made.how.get().told(k, 0), NONE);
            Expect.same("15: told(" + k + ", 1) on " + made.name, made.how.get().told(k, 1), NONE);
            Expect.same("16: log(" + k + ") on " + made.name, made.how.get().log(k), NONE);
        }
        changesNothing("asking on " + made.name, made.how, log -> {
            log.octet(0);
            log.first();
            log.log(0);
            log.told(0, 0);
            log.told(0, 1);
            log.check(0);
            log.check(255);
            log.feed(0, 1, 2, 3, 4);
            for (int what = 0; what <= 5; what++) {
                log.count(what);
            }
        });
    }

    private static void feedMoreThan400() {
        for (int many = 1; many <= 16; many++) {
            int more = many;
            Supplier<Asked> made = () -> {
                Asked log = new Asked();
                Expect.fill(log, 401 - more, 3);
                return log;
            };
            String call = "3: feed(" + many + ") into " + (401 - many);
            throwsAlone(call, made, STATE, log -> log.feed(more, 0x01020304, 5, 6, 7));
            Expect.same("3: one byte less", made.get().feed(many - 1, 0, 0, 0, 0), 400);
        }
    }

    private static void isFull(String call, Supplier<Asked> made, Consumer<Asked> run, int answer) {
        Expect.same(call, answer, FULL);
        changesNothing(call, made, run);
    }

    private static void appendIsFull(String call, Supplier<Asked> made) {
        isFull("6: append, " + call, made, log -> log.append(), made.get().append());
    }

    private static void rawIsFull(String call, Supplier<Asked> made) {
        isFull("7: raw, " + call, made, log -> log.raw(2), made.get().raw(2));
    }

    private static Supplier<Asked> with(Supplier<Asked> made, int buffer) {
        return () -> both(made, log -> Expect.fill(log, buffer, 77));
    }

    private static void fullByAppend() {
        Supplier<Asked> in512 = () -> logOf4070(512);
        Expect.same("6: 19 bytes reach 4096", with(in512, 19).get().append(), 4096);
        appendIsFull("a byte more", with(in512, 20));
        appendIsFull("400 bytes", with(in512, 400));
        Supplier<Asked> in64 = () -> both(() -> logOf4070(64), log -> log.cut(3968));
        Expect.same("6: two fragments reach 4096", with(in64, 114).get().append(), 4096);
        appendIsFull("the third fragment is too many", with(in64, 115));
        Supplier<Asked> of4090 = () -> both(() -> logOf4070(512), log -> Expect.raw(log, 3, 13));
        appendIsFull("the zeros reach 4096, and no bytes are one fragment", with(of4090, 0));
        Supplier<Asked> of4092 = () -> both(() -> logOf4070(241), log -> Expect.raw(log, 3, 15));
        appendIsFull("the zeros alone reach 4097", with(of4092, 0));
        Supplier<Asked> in100 = () -> both(() -> logOf4070(100), log -> log.cut(4000));
        Expect.same("6: 4096 inside a block", with(in100, 89).get().append(), 4096);
        appendIsFull("4097 inside a block", with(in100, 90));
        appendIsFull("at 4096", with(RefusedTest::fullLog, 0));
        appendIsFull("400 bytes at 4096", RefusedTest::fullLog);
    }

    private static void fullByRaw() {
        Supplier<Asked> in64 = () -> logOf4070(64);
        Expect.same("7: 19 bytes reach 4096", with(in64, 19).get().raw(2), 4096);
        rawIsFull("a byte more", with(in64, 20));
        rawIsFull("400 bytes", with(in64, 400));
        Supplier<Asked> of4089 = () -> both(in64, log -> Expect.raw(log, 3, 12));
        Expect.same("7: no bytes reach 4096", with(of4089, 0).get().raw(2), 4096);
        rawIsFull("one byte reaches 4097", with(of4089, 1));
        Supplier<Asked> of4090 = () -> both(in64, log -> Expect.raw(log, 3, 13));
        rawIsFull("no bytes reach 4097", with(of4090, 0));
        rawIsFull("at 4096", with(RefusedTest::fullLog, 0));
    }

    /** Where two of a call's numbers are wrong, the exceptions go in the order of the document. */
    private static void refusedFirst() {
        Expect.thrown("3: feed(17) into a full buffer", fullLog(), ARGUMENT, log -> log.feed(17, 0, 0, 0, 0));
        Expect.thrown("7: raw(256) of what is FULL", fullLog(), ARGUMENT, log -> log.raw(256));
        Expect.thrown("8: put(4096, 256)", fullLog(), INDEX, log -> log.put(4096, 256));
        Expect.thrown("8: put(-1, -1)", fullLog(), INDEX, log -> log.put(-1, -1));
        Expect.thrown("15: told(100, 2)", fullLog(), ARGUMENT, log -> log.told(100, 2));
    }
}
