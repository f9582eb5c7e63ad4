/** Promises 10 to 15 with ordinary inputs: beginning, reading, and what was told. */
final class ReaderTest {
    private static final int NONE = FragmentLog.NONE;

    public static void main(String[] args) {
        begin();
        read();
        readInSmallBlocks();
        beyond();
        checked();
        unended();
        unbegun();
        unknown();
        endInsideARecord();
        octetAndFirst();
        count();
        told();
        Expect.end("ReaderTest");
    }

    private static void begin() {
        Asked log = new Asked();
        Expect.append(log, 10);
        Expect.append(log, 20);
        Expect.append(log, 150);
        Expect.append(log, 4);
        int[][] due = {{0, 10, 0}, {10, 20, 17}, {30, 150, 44}, {50, 4, 222}, {100, 4, 222}, {200, 4, 222},
            {230, NONE, NONE}};
        for (int[] row : due) {
            Expect.same("10: begin(" + row[0] + ")", log.begin(row[0]), row[0] / 64 * 64);
            Expect.same("11: read from " + row[0], log.read(), row[1]);
            Expect.same("13: first from " + row[0], log.first(), row[2]);
            Expect.same("14: nothing told from " + row[0], log.count(3), 0);
        }
    }

    private static void read() {
        Asked log = new Asked();
        Expect.append(log, 12);
        Expect.append(log, 90);
        Expect.append(log, 200);
        Expect.same("11: 12", log.read(), 12);
        Expect.same("11: 90", log.read(), 90);
        Expect.same("11: 200", log.read(), 200);
        Expect.same("11: none", log.read(), NONE);
        Expect.same("14: place", log.count(1), log.count(0));
        Expect.append(log, 33);
        Expect.same("11: more bytes came", log.read(), 33);
    }

    private static void readInSmallBlocks() {
        Asked log = new Asked();
        log.clear(16);
        int[] lengths = {0, 9, 10, 40, 1, 2, 27, 0, 8};
        for (int length : lengths) {
            Expect.append(log, length);
        }
        for (int length : lengths) {
            Expect.same("11: read()", log.read(), length);
            for (int k = 0; k < length; k++) {
                Expect.same("12: octet(" + k + ")", log.octet(k), length + k);
            }
            Expect.same("12: octet behind", log.octet(length), NONE);
        }
        Expect.same("11: none more", log.read(), NONE);
        Expect.same("14: nothing told", log.count(3), 0);
    }

    private static void beyond() {
        Asked log = new Asked();
        Expect.append(log, 3);
        Expect.append(log, 40);
        Expect.append(log, 30);
        log.put(14, 100);
        Expect.same("11: before it", log.read(), 3);
        Expect.same("11: none behind", log.read(), NONE);
        Expect.same("15: BEYOND, then the LAST", Expect.toldBy(log), "1/54 5/30");
    }

    private static void checked() {
        Asked log = new Asked();
        Expect.append(log, 150);
        Expect.append(log, 2);
        log.put(100, log.log(100) ^ 4);
        Expect.same("11: behind the damage", log.read(), 2);
        Expect.same("15: CHECKED, TORN, UNBEGUN", Expect.toldBy(log), "2/64 3/57 5/36");
        Expect.same("14: how often", log.count(3), 3);
        Expect.same("14: bytes", log.count(4), 157);
    }

    private static void unended() {
        Asked log = new Asked();
        log.clear(512);
        Expect.raw(log, 2, 4);
        Expect.raw(log, 3, 5);
        Expect.raw(log, 1, 6);
        Expect.raw(log, 2, 8);
        Expect.raw(log, 2, 9);
        Expect.raw(log, 4, 1);
        Expect.same("11: ALL behind others", log.read(), 6);
        Expect.same("13: ALL", log.first(), 23);
        Expect.same("11: FIRST behind a FIRST", log.read(), 10);
        Expect.same("12: octet(8), octet(9)", log.octet(8) * 100 + log.octet(9), 1004);
        Expect.same("13: the later FIRST", log.first(), 51);
        Expect.same("15: UNENDED", Expect.toldBy(log), "4/9 4/8");
    }

    private static void unbegun() {
        Asked log = new Asked();
        log.clear(512);
        Expect.raw(log, 3, 4);
        Expect.raw(log, 4, 5);
        Expect.raw(log, 1, 1);
        Expect.raw(log, 4, 2);
        Expect.same("11: read()", log.read(), 1);
        Expect.same("15: UNBEGUN", Expect.toldBy(log), "5/4 5/5");
        Expect.same("11: none", log.read(), NONE);
        Expect.same("15: UNBEGUN again", Expect.toldBy(log), "5/4 5/5 5/2");
    }

    private static void unknown() {
        Asked log = new Asked();
        log.clear(512);
        Expect.raw(log, 5, 4);
        Expect.raw(log, 2, 3);
        Expect.raw(log, 200, 6);
        Expect.raw(log, 4, 1);
        Expect.raw(log, 1, 8);
        Expect.same("11: read()", log.read(), 8);
        Expect.same("15: UNKNOWN with what it had", Expect.toldBy(log), "6/4 6/9 5/1");
    }

    private static void endInsideARecord() {
        Asked log = new Asked();
        Expect.raw(log, 2, 3);
        Expect.same("11: FIRST alone", log.read(), NONE);
        Expect.same("14: place behind it", log.count(1), 10);
        Expect.raw(log, 4, 5);
        Expect.same("11: what it had is dropped", log.read(), NONE);
        Expect.same("15: LAST is unbegun", Expect.toldBy(log), "5/5");
        log.begin(0);
        Expect.same("11: from the beginning it is whole", log.read(), 8);
    }

    private static void octetAndFirst() {
        Asked log = new Asked();
        Expect.append(log, 60);
        Expect.append(log, 2);
        log.read();
        Expect.same("12: of the first fragment", log.octet(5), 65);
        Expect.same("12: of the second fragment", log.octet(58), 118);
        Expect.same("13: first", log.first(), 0);
        log.read();
        Expect.same("12: of the second record", log.octet(1), 3);
        Expect.same("13: first", log.first(), 74);
        log.read();
        Expect.same("12: none read", log.octet(0), NONE);
        Expect.same("13: none read", log.first(), NONE);
    }

    private static void count() {
        Asked log = new Asked();
        Expect.raw(log, 3, 4);
        Expect.raw(log, 9, 7);
        Expect.append(log, 1);
        log.read();
        Expect.fill(log, 13, 0);
        int[] due = {33, 33, 0, 2, 11, 13};
        for (int what = 0; what <= 5; what++) {
            Expect.same("14: count(" + what + ")", log.count(what), due[what]);
        }
        log.begin(5);
        Expect.same("14: lost", log.count(2), 1);
    }

    private static void told() {
        Asked log = new Asked();
        Expect.raw(log, 3, 4);
        Expect.raw(log, 9, 7);
        log.read();
        int[][] due = {{FragmentLog.UNBEGUN, 4}, {FragmentLog.UNKNOWN, 7}, {NONE, NONE}};
        for (int k = 0; k < due.length; k++) {
            Expect.same("15: told(" + k + ", 0)", log.told(k, 0), due[k][0]);
            Expect.same("15: told(" + k + ", 1)", log.told(k, 1), due[k][1]);
        }
    }
}
