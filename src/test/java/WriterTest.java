import java.util.zip.CRC32C;

/** Promises 1 to 9 and 16: a new object, the buffer, and what is put behind the log. */
final class WriterTest {
    private static final Class<?> ARGUMENT = IllegalArgumentException.class;

    public static void main(String[] args) {
        newObject();
        clear();
        feed();
        erase();
        check();
        appendInBlocks();
        appendAtTheEndOfABlock();
        appendUntilFull();
        raw();
        put();
        cut();
        log();
        Expect.end("WriterTest");
    }

    private static void newObject() {
        FragmentLog log = new FragmentLog();
        for (int what = 0; what <= 5; what++) {
            Expect.same("1: count(" + what + ") of a new object", log.count(what), 0);
        }
        Expect.same("1: log(0)", log.log(0), FragmentLog.NONE);
        Expect.same("1: octet(0)", log.octet(0), FragmentLog.NONE);
        Expect.same("1: first()", log.first(), FragmentLog.NONE);
        Expect.same("1: told(0, 0)", log.told(0, 0), FragmentLog.NONE);
        Expect.same("1: erase()", log.erase(), 0);
        Expect.same("1: read()", log.read(), FragmentLog.NONE);
        Expect.same("1: SIZE is 64", Expect.append(log, 58), 72);
    }

    private static void clear() {
        FragmentLog log = new FragmentLog();
        Expect.raw(log, 3, 5);
        log.begin(1);
        log.read();
        log.begin(0);
        log.read();
        for (int size : new int[] {15, 513, 0, -1, Integer.MIN_VALUE, Integer.MAX_VALUE}) {
            Expect.thrown("2: clear(" + size + ")", log, ARGUMENT, () -> log.clear(size));
        }
        Expect.same("2: something was told", log.count(3), 1);
        log.clear(16);
        Expect.same("2: bytes", log.count(0), 0);
        Expect.same("2: log(0)", log.log(0), FragmentLog.NONE);
        Expect.same("2: place", log.count(1), 0);
        Expect.same("2: told", log.count(3) + log.count(4), 0);
        Expect.same("2: told(0, 0)", log.told(0, 0), FragmentLog.NONE);
        Expect.same("2: the buffer stays", log.count(5), 5);
        Expect.same("2: SIZE 16", Expect.append(log, 10), 24);
        log.begin(20);
        log.clear(512);
        Expect.same("2: not lost", log.count(2), 0);
        Expect.same("2: SIZE 512", Expect.append(log, 400), 407);
        Expect.same("2: SIZE 512, the next block", Expect.append(log, 99), 520);
        Expect.same("2: begun at 0", log.read(), 400);
    }

    private static void feed() {
        FragmentLog log = new FragmentLog();
        Expect.same("3: feed none", log.feed(0, -1, -1, -1, -1), 0);
        Expect.same("3: feed 3", log.feed(3, 0x01020304, 0, 0, 0), 3);
        Expect.same("3: feed 16", log.feed(16, 0x05060708, 0x090A0B0C, 0x0D0E0F10, 0x111213FF), 19);
        Expect.same("3: feed 6", log.feed(6, 0x80818283, 0x84858687, -1, -1), 25);
        Expect.same("3: feed 9", log.feed(9, 1, 2, 0x7F000000, -1), 34);
        Expect.same("3: feed 13", log.feed(13, 1, 2, 3, 0x7E000000), 47);
        int[] due = {1, 2, 3, 5, 6, 7, 8, 9, 10, 11, 12, 13, 14, 15, 16, 17, 18, 19, 255,
            128, 129, 130, 131, 132, 133, 0, 0, 0, 1, 0, 0, 0, 2, 127,
            0, 0, 0, 1, 0, 0, 0, 2, 0, 0, 0, 3, 126};
        log.append();
        for (int k = 0; k < due.length; k++) {
            Expect.same("3: byte " + k, log.log(7 + k), due[k]);
        }
        for (int many : new int[] {-1, 17, Integer.MIN_VALUE, Integer.MAX_VALUE}) {
            Expect.thrown("3: feed(" + many + ")", log, ARGUMENT, () -> log.feed(many, 0, 0, 0, 0));
        }
        Expect.fill(log, 385, 0);
        Expect.thrown("3: more than 400", log, IllegalStateException.class, () -> log.feed(16, 0, 0, 0, 0));
        Expect.same("3: 400", log.feed(15, 0, 0, 0, 0), 400);
        Expect.same("3: none more", log.feed(0, 0, 0, 0, 0), 400);
        Expect.thrown("3: 401", log, IllegalStateException.class, () -> log.feed(1, 0, 0, 0, 0));
        Expect.thrown("3: 17 into a full one", log, ARGUMENT, () -> log.feed(17, 0, 0, 0, 0));
    }

    private static void erase() {
        FragmentLog log = new FragmentLog();
        Expect.fill(log, 20, 3);
        Expect.same("4: erase()", log.erase(), 20);
        Expect.same("4: count(5)", log.count(5), 0);
        Expect.same("4: erase() again", log.erase(), 0);
        Expect.same("4: feed", log.feed(2, 0, 0, 0, 0), 2);
    }

    private static void check() {
        FragmentLog log = new FragmentLog();
        Expect.same("5: check(1) of none", log.check(1), 1126705925);
        byte[] bytes = new byte[401];
        for (int many = 0; many <= 400; many++) {
            int kind = (many * 37) & 255;
            bytes[0] = (byte) kind;
            Expect.same("5: check of " + many, log.check(kind), checkBy(bytes, many + 1));
            if (many < 400) {
                bytes[many + 1] = (byte) (many * 91 + 200);
                log.feed(1, (many * 91 + 200) << 24, 0, 0, 0);
            }
        }
        Expect.same("5: the buffer stays", log.count(5), 400);
        log.check(0);
        log.check(255);
        for (int kind : new int[] {-1, 256, Integer.MIN_VALUE, Integer.MAX_VALUE}) {
            Expect.thrown("5: check(" + kind + ")", log, ARGUMENT, () -> log.check(kind));
        }
    }

    private static int checkBy(byte[] bytes, int many) {
        CRC32C sum = new CRC32C();
        sum.update(bytes, 0, many);
        return Integer.rotateRight((int) sum.getValue(), 15) + 0xA282EAD8;
    }

    private static void fragmentIs(String call, FragmentLog log, int place, int kind, int length) {
        byte[] bytes = new byte[length + 1];
        for (int k = 0; k <= length; k++) {
            bytes[k] = (byte) log.log(place + 6 + k);
        }
        int check = checkBy(bytes, length + 1);
        for (int k = 0; k < 4; k++) {
            Expect.same(call + ": check byte " + k, log.log(place + k), (check >>> (8 * k)) & 255);
        }
        Expect.same(call + ": length", log.log(place + 4) | log.log(place + 5) << 8, length);
        Expect.same(call + ": kind", log.log(place + 6), kind);
    }

    private static void appendInBlocks() {
        FragmentLog log = new FragmentLog();
        Expect.same("6: no bytes", Expect.append(log, 0), 7);
        fragmentIs("6: no bytes", log, 0, 1, 0);
        Expect.same("6: 5 bytes", Expect.append(log, 5), 19);
        fragmentIs("6: 5 bytes", log, 7, 1, 5);
        Expect.same("6: the buffer stays", log.count(5), 5);
        Expect.same("6: 140 bytes", Expect.append(log, 140), 19 + 140 + 3 * 7);
        fragmentIs("6: first", log, 19, 2, 38);
        fragmentIs("6: middle", log, 64, 3, 57);
        fragmentIs("6: last", log, 128, 4, 45);
        Expect.same("6: first byte", log.log(26), 140);
        Expect.same("6: last byte", log.log(179), (140 + 139) & 255);
        FragmentLog long512 = new FragmentLog();
        long512.clear(512);
        Expect.append(long512, 400);
        fragmentIs("6: 400 bytes", long512, 0, 1, 400);
        FragmentLog exact = new FragmentLog();
        Expect.same("6: all of a block", Expect.append(exact, 57), 64);
        fragmentIs("6: all of a block", exact, 0, 1, 57);
        Expect.same("6: two blocks", Expect.append(exact, 114), 192);
        fragmentIs("6: two blocks, first", exact, 64, 2, 57);
        fragmentIs("6: two blocks, last", exact, 128, 4, 57);
    }

    private static void appendAtTheEndOfABlock() {
        for (int left = 0; left <= 8; left++) {
            FragmentLog log = new FragmentLog();
            Expect.append(log, 57 - left);
            String call = "6: with " + left + " bytes left";
            int due = left < 7 ? 64 + 7 + 3 : 64 + 7 + 3 - (left - 7);
            Expect.same(call, Expect.append(log, 3), due);
            if (left < 7) {
                for (int k = 64 - left; k < 64; k++) {
                    Expect.same(call + ", byte " + k, log.log(k), 0);
                }
                fragmentIs(call, log, 64, 1, 3);
            } else {
                fragmentIs(call, log, 64 - left, 2, left - 7);
                fragmentIs(call, log, 64, 4, 10 - left);
            }
        }
        FragmentLog log = new FragmentLog();
        Expect.append(log, 50);
        Expect.same("6: no bytes with 7 left", Expect.append(log, 0), 64);
        fragmentIs("6: no bytes with 7 left", log, 57, 1, 0);
        zerosOverOldBytes();
    }

    private static void zerosOverOldBytes() {
        FragmentLog log = new FragmentLog();
        Expect.append(log, 57);
        log.cut(60);
        Expect.append(log, 1);
        for (int k = 60; k < 64; k++) {
            Expect.same("6: a byte that was cut becomes 0", log.log(k), 0);
        }
    }

    private static FragmentLog logOf4070(int size) {
        FragmentLog log = new FragmentLog();
        log.clear(size);
        Expect.fill(log, 400, 1);
        for (int k = 0; k < 10; k++) {
            log.raw(1);
        }
        return log;
    }

    private static void appendUntilFull() {
        FragmentLog log = logOf4070(512);
        full("6: by a byte", log, 20);
        full("6: by a fragment more", log, 300);
        Expect.same("6: exactly 4096", Expect.append(log, 19), 4096);
        full("6: at 4096", log, 0);
        fullBehindZeros(64);
        fullBehindZeros(241);
    }

    private static void full(String call, FragmentLog log, int many) {
        Expect.fill(log, many, 5);
        String before = Expect.stateOf(log);
        Expect.same(call, log.append(), FragmentLog.FULL);
        Expect.same("the state behind " + call, Expect.stateOf(log), before);
        Expect.same(call + ", raw", log.raw(1), FragmentLog.FULL);
        Expect.same("the state behind raw " + call, Expect.stateOf(log), before);
    }

    /** The zeros go up to 4096 with SIZE 64, and to 4097 with SIZE 241. */
    private static void fullBehindZeros(int size) {
        FragmentLog log = logOf4070(size);
        Expect.same("7: 4 bytes left in all", Expect.raw(log, 1, 15), 4092);
        full("6: zeros, SIZE " + size, log, 0);
        Expect.same("6: no zeros stay", log.log(4092), FragmentLog.NONE);
    }

    private static void raw() {
        FragmentLog log = new FragmentLog();
        log.clear(16);
        Expect.same("7: raw beyond a block", Expect.raw(log, 9, 20), 27);
        fragmentIs("7: raw", log, 0, 9, 20);
        Expect.same("7: raw where it lies", Expect.raw(log, 0, 0), 34);
        fragmentIs("7: raw, no bytes", log, 27, 0, 0);
        Expect.same("7: the buffer stays", Expect.raw(log, 255, 400) - log.count(5), 41);
        fragmentIs("7: raw(255)", log, 34, 255, 400);
        for (int kind : new int[] {-1, 256, Integer.MIN_VALUE, Integer.MAX_VALUE}) {
            Expect.thrown("7: raw(" + kind + ")", log, ARGUMENT, () -> log.raw(kind));
        }
        for (int k = 0; k < 8; k++) {
            log.raw(1);
        }
        Expect.same("7: bytes", log.count(0), 441 + 8 * 407);
        Expect.same("7: FULL", Expect.raw(log, 1, 393), FragmentLog.FULL);
        Expect.thrown("7: raw(256) of what is FULL", log, ARGUMENT, () -> log.raw(256));
        Expect.same("7: exactly 4096", Expect.raw(log, 1, 392), 4096);
        Expect.same("7: FULL at 4096", Expect.raw(log, 1, 0), FragmentLog.FULL);
    }

    private static void put() {
        FragmentLog log = new FragmentLog();
        Expect.append(log, 3);
        log.read();
        Expect.same("8: put", log.put(7, 255), 3);
        Expect.same("8: log", log.log(7), 255);
        Expect.same("8: put again", log.put(7, 0), 255);
        Expect.same("8: the last", log.put(9, 128), 5);
        Expect.same("8: the last now", log.log(9), 128);
        Expect.same("8: the record read before stays", log.octet(0), 3);
        Class<?> index = IndexOutOfBoundsException.class;
        for (int place : new int[] {-1, 10, 4096, Integer.MIN_VALUE, Integer.MAX_VALUE}) {
            Expect.thrown("8: put(" + place + ", 1)", log, index, () -> log.put(place, 1));
            Expect.thrown("8: put(" + place + ", 256)", log, index, () -> log.put(place, 256));
        }
        for (int value : new int[] {-1, 256, Integer.MIN_VALUE, Integer.MAX_VALUE}) {
            Expect.thrown("8: put(0, " + value + ")", log, ARGUMENT, () -> log.put(0, value));
        }
    }

    private static void cut() {
        FragmentLog log = new FragmentLog();
        Expect.append(log, 3);
        Expect.raw(log, 3, 2);
        log.begin(9);
        log.read();
        log.begin(0);
        log.read();
        log.read();
        Expect.same("9: told before", log.count(3), 1);
        for (int n : new int[] {-1, 20, 5000, Integer.MIN_VALUE, Integer.MAX_VALUE}) {
            Expect.thrown("9: cut(" + n + ")", log, ARGUMENT, () -> log.cut(n));
        }
        Expect.same("9: cut none", log.cut(19), 0);
        Expect.same("9: begun at 0", log.count(1), 0);
        Expect.same("9: nothing is told", log.count(3) + log.count(4), 0);
        Expect.same("9: read again", log.read(), 3);
        log.begin(9);
        Expect.same("9: cut", log.cut(12), 7);
        Expect.same("9: not lost", log.count(2), 0);
        Expect.same("9: bytes", log.count(0), 12);
        Expect.same("9: log(11), log(12)", log.log(11) != FragmentLog.NONE && log.log(12) == FragmentLog.NONE, true);
        Expect.same("9: read what stays", log.read(), 3);
        Expect.same("9: cut all", log.cut(0), 12);
        Expect.same("9: none", log.read(), FragmentLog.NONE);
        Expect.same("9: cut none of none", log.cut(0), 0);
        Expect.same("9: append behind", Expect.append(log, 1), 8);
    }

    private static void log() {
        FragmentLog log = new FragmentLog();
        Expect.append(log, 1);
        Expect.same("16: log(7)", log.log(7), 1);
        for (int k : new int[] {-1, 8, 4096, Integer.MIN_VALUE, Integer.MAX_VALUE}) {
            Expect.same("16: log(" + k + ")", log.log(k), FragmentLog.NONE);
        }
    }
}
