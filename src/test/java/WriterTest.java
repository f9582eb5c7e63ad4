import java.util.zip.CRC32C;

/** Promises 1 to 9 and 16 with ordinary inputs: a new object, the buffer, and what is put behind the log. */
final class WriterTest {
    private static final int NONE = FragmentLog.NONE;

    public static void main(String[] args) {
        newObject();
        clear();
        feed();
        erase();
        check();
        append();
        raw();
        put();
        cut();
        log();
        Expect.end("WriterTest");
    }

    private static void newObject() {
        Asked log = new Asked();
        for (int what = 0; what <= 5; what++) {
            Expect.same("1: count(" + what + ") of a new object", log.count(what), 0);
        }
        Expect.same("1: read()", log.read(), NONE);
        Expect.same("1: SIZE is 64", Expect.append(log, 60), 74);
    }

    private static void clear() {
        Asked log = new Asked();
        Expect.raw(log, 3, 5);
        log.read();
        log.clear(32);
        Expect.same("2: bytes", log.count(0), 0);
        Expect.same("2: place", log.count(1), 0);
        Expect.same("2: told", log.count(3) + log.count(4), 0);
        Expect.same("2: SIZE 32", Expect.append(log, 26), 40);
        Expect.same("2: begun at 0", log.read(), 26);
    }

    private static void feed() {
        Asked log = new Asked();
        Expect.same("3: feed 3", log.feed(3, 0x01020304, 0, 0, 0), 3);
        Expect.same("3: feed 16", log.feed(16, 0x05060708, 0x090A0B0C, 0x0D0E0F10, 0x111213FF), 19);
        Expect.same("3: feed 6", log.feed(6, 0x80818283, 0x84858687, -1, -1), 25);
        Expect.same("3: feed 9", log.feed(9, 1, 2, 0x7F000000, -1), 34);
        Expect.same("3: feed 13", log.feed(13, 1, 2, 3, 0x7E000000), 47);
        int[] due = {1, 2, 3, 5, 6, 7, 8, 9, 10, 11, 12, 13, 14, 15, 16, 17, 18, 19, 255,
            128, 129, 130, 131, 132, 133, 0, 0, 0, 1, 0, 0, 0, 2, 127,
            0, 0, 0, 1, 0, 0, 0, 2, 0, 0, 0, 3, 126};
        log.append();
        for (int k = 0; k < due.length; k++) {
            Expect.same("3: byte " + k, log.log(7 + k), due[k]);
        }
    }

    private static void erase() {
        Asked log = new Asked();
        Expect.fill(log, 20, 3);
        Expect.same("4: erase()", log.erase(), 20);
        Expect.same("4: count(5)", log.count(5), 0);
        Expect.same("4: feed", log.feed(2, 0, 0, 0, 0), 2);
    }

    private static void check() {
        byte[] bytes = new byte[401];
        for (int k = 1; k <= 400; k++) {
            bytes[k] = (byte) (k * 91 + 200);
        }
        for (int many = 0; many <= 400; many++) {
            Asked log = new Asked();
            for (int k = 1; k <= many; k++) {
                log.feed(1, bytes[k] << 24, 0, 0, 0);
            }
            bytes[0] = (byte) (many * 37);
            CRC32C sum = new CRC32C();
            sum.update(bytes, 0, many + 1);
            int due = Integer.rotateRight((int) sum.getValue(), 15) + 0xA282EAD8;
            Expect.same("5: check of " + many, log.check(bytes[0] & 255), due);
        }
    }

    private static void headIs(String call, Asked log, int place, int kind, int length) {
        Expect.same(call + ": length", log.log(place + 4) | log.log(place + 5) << 8, length);
        Expect.same(call + ": kind", log.log(place + 6), kind);
    }

    private static void append() {
        Asked log = new Asked();
        Expect.same("6: 5 bytes", Expect.append(log, 5), 12);
        headIs("6: 5 bytes", log, 0, 1, 5);
        int check = log.check(1);
        for (int k = 0; k < 4; k++) {
            Expect.same("6: check byte " + k, log.log(k), check >> 8 * k & 255);
        }
        Expect.same("6: 140 bytes", Expect.append(log, 140), 12 + 140 + 3 * 7);
        headIs("6: FIRST", log, 12, 2, 45);
        headIs("6: MIDDLE", log, 64, 3, 57);
        headIs("6: LAST", log, 128, 4, 38);
        int[][] bytes = {{19, 0}, {63, 44}, {71, 45}, {127, 101}, {135, 102}, {172, 139}};
        for (int[] row : bytes) {
            Expect.same("6: byte " + row[1], log.log(row[0]), 140 + row[1] & 255);
        }
    }

    private static void raw() {
        Asked log = new Asked();
        Expect.same("7: raw(9)", Expect.raw(log, 9, 20), 27);
        headIs("7: raw(9)", log, 0, 9, 20);
        int check = log.check(9);
        for (int k = 0; k < 4; k++) {
            Expect.same("7: check byte " + k, log.log(k), check >> 8 * k & 255);
        }
        Expect.same("7: raw(2) over the block's end", Expect.raw(log, 2, 100), 134);
        headIs("7: raw(2)", log, 27, 2, 100);
        Expect.same("7: the last byte", log.log(133), 101);
        Expect.same("7: the buffer stays", log.count(5), 100);
    }

    private static void put() {
        Asked log = new Asked();
        Expect.append(log, 3);
        log.read();
        Expect.same("8: put", log.put(8, 77), 4);
        Expect.same("8: log", log.log(8), 77);
        Expect.same("8: put again", log.put(8, 4), 77);
        Expect.same("8: its neighbours", log.log(7) * 10 + log.log(9), 35);
        Expect.same("8: the record read before stays", log.octet(1), 4);
        Expect.same("8: the place stays", log.count(1), 10);
    }

    private static void cut() {
        Asked log = new Asked();
        Expect.append(log, 3);
        Expect.raw(log, 3, 2);
        log.begin(9);
        log.read();
        Expect.same("9: cut", log.cut(12), 7);
        Expect.same("9: bytes", log.count(0), 12);
        Expect.same("9: place", log.count(1), 0);
        Expect.same("9: not lost", log.count(2), 0);
        Expect.same("9: log(12)", log.log(12), NONE);
        Expect.same("9: read what stays", log.read(), 3);
        Expect.same("9: and no more", log.read(), NONE);
        log.cut(10);
        Expect.same("9: append behind", Expect.append(log, 1), 18);
    }

    private static void log() {
        Asked log = new Asked();
        Expect.append(log, 5);
        for (int k = 0; k < 5; k++) {
            Expect.same("16: log(" + (7 + k) + ")", log.log(7 + k), 5 + k);
        }
        Expect.same("16: none behind", log.log(12), NONE);
    }
}
