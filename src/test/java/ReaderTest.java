/** Promises 10 to 15: beginning, reading, and what was told. */
final class ReaderTest {
    private static final int NONE = FragmentLog.NONE;
    private static final Class<?> ARGUMENT = IllegalArgumentException.class;

    public static void main(String[] args) {
        begin();
        beginInTheMiddleOfARecord();
        beginBehindTheLog();
        lost();
        lostStaysWhenBroken();
        read();
        readALongRecord();
        endInsideARecord();
        endInsideAHead();
        endInsideAFragment();
        endOfAWholeBlock();
        beyond();
        beyondInAWholeLastBlock();
        checked();
        checkedInTheLastBlock();
        passedOver();
        torn();
        unended();
        unbegun();
        unknown();
        octetAndFirst();
        count();
        told();
        Expect.end("ReaderTest");
    }

    private static void begin() {
        FragmentLog log = new FragmentLog();
        Expect.append(log, 100);
        int[][] due = {{0, 0}, {1, 0}, {57, 0}, {58, 64}, {63, 64}, {64, 64}, {121, 64}, {122, 128},
            {200, 192}, {4096, 4096}, {4089, 4032}, {4090, 4096}};
        for (int[] row : due) {
            Expect.same("10: begin(" + row[0] + ")", log.begin(row[0]), row[1]);
            Expect.same("10: place", log.count(1), row[1]);
            Expect.same("10: lost", log.count(2), row[0] > 0 ? 1 : 0);
        }
        log.clear(100);
        Expect.same("10: begin(4096) in blocks of 100", log.begin(4096), 4100);
        Expect.same("10: read there", log.read(), NONE);
        for (int place : new int[] {-1, 4097, Integer.MIN_VALUE, Integer.MAX_VALUE}) {
            Expect.thrown("10: begin(" + place + ")", log, ARGUMENT, () -> log.begin(place));
        }
        log.clear(64);
        Expect.raw(log, 3, 1);
        log.read();
        Expect.same("10: told before", Expect.toldBy(log), "5/1");
        log.begin(0);
        Expect.same("10: what was told is forgotten", Expect.toldBy(log), "");
        Expect.same("10: and not counted", log.count(3) + log.count(4), 0);
    }

    private static void beginInTheMiddleOfARecord() {
        FragmentLog log = new FragmentLog();
        Expect.append(log, 10);
        Expect.append(log, 20);
        Expect.append(log, 150);
        Expect.append(log, 4);
        int[][] due = {{0, 10, 0}, {1, 20, 17}, {17, 20, 17}, {18, 150, 44}, {44, 150, 44}, {45, 4, 222},
            {57, 4, 222}, {64, 4, 222}, {130, 4, 222}, {192, 4, 222}, {222, 4, 222}, {223, NONE, NONE}};
        for (int[] row : due) {
            log.begin(row[0]);
            Expect.same("11: read from " + row[0], log.read(), row[1]);
            Expect.same("13: first from " + row[0], log.first(), row[2]);
            Expect.same("11: nothing told from " + row[0], log.count(3), 0);
        }
    }

    private static void beginBehindTheLog() {
        FragmentLog log = new FragmentLog();
        Expect.append(log, 5);
        Expect.same("10: begin(30)", log.begin(30), 0);
        Expect.same("11: what begins before is broken", log.read(), NONE);
        Expect.same("11: place", log.count(1), 12);
        Expect.append(log, 11);
        Expect.same("11: 12 is before 30", log.read(), NONE);
        Expect.append(log, 13);
        Expect.same("11: 30 is not", log.read(), 13);
        Expect.same("10: begin(60)", log.begin(60), 64);
        Expect.same("11: none yet", log.read(), NONE);
        Expect.same("11: the place stays behind the log", log.count(1), 64);
        Expect.append(log, 8);
        Expect.same("11: its end lies there, and is passed over", log.read(), NONE);
        Expect.append(log, 9);
        Expect.same("11: more bytes came", log.read(), 9);
        Expect.same("11: nothing told", log.count(3), 0);
    }

    private static void lost() {
        int[] kinds = {3, 3, 4, 4};
        FragmentLog log = new FragmentLog();
        Expect.append(log, 57);
        for (int kind : kinds) {
            Expect.raw(log, kind, 2);
        }
        log.begin(64);
        Expect.same("11: none", log.read(), NONE);
        Expect.same("11: not lost behind the first LAST", Expect.toldBy(log) + log.count(2), "5/20");
        log.cut(64);
        Expect.raw(log, 3, 2);
        log.begin(64);
        log.read();
        Expect.same("14: MIDDLE leaves it lost", log.count(2), 1);
        for (int kind : new int[] {1, 2, 4, 9, 0}) {
            log.cut(64);
            Expect.raw(log, kind, 3);
            log.begin(64);
            Expect.same("11: read kind " + kind, log.read(), kind == 1 ? 3 : NONE);
            Expect.same("14: kind " + kind + " finds it", log.count(2), 0);
            Expect.same("15: kind " + kind, Expect.toldBy(log), kind == 9 || kind == 0 ? "6/3" : "");
        }
    }

    private static void lostStaysWhenBroken() {
        FragmentLog log = new FragmentLog();
        Expect.append(log, 150);
        log.put(64, log.log(64) ^ 1);
        log.begin(64);
        Expect.same("11: its LAST is passed over", log.read(), NONE);
        Expect.same("11: the damage is told, no more", Expect.toldBy(log), "2/64");
        log.begin(50);
        Expect.same("11: likewise from before", log.read(), NONE);
        Expect.same("11: the damage is told once", Expect.toldBy(log), "2/64");
    }

    private static void read() {
        FragmentLog log = new FragmentLog();
        log.clear(16);
        int[] lengths = {0, 9, 10, 400, 1, 2, 27, 0, 8};
        for (int length : lengths) {
            Expect.append(log, length);
        }
        for (int length : lengths) {
            Expect.same("11: read()", log.read(), length);
            for (int k = 0; k < length; k++) {
                Expect.same("12: octet(" + k + ")", log.octet(k), (length + k) & 255);
            }
            Expect.same("12: octet behind", log.octet(length), NONE);
        }
        Expect.same("11: none more", log.read(), NONE);
        Expect.same("11: nothing told", log.count(3), 0);
        Expect.same("14: place at the end", log.count(1), log.count(0));
        Expect.append(log, 33);
        Expect.same("11: more bytes came", log.read(), 33);
    }

    private static void readALongRecord() {
        FragmentLog log = new FragmentLog();
        log.clear(512);
        int due = 0;
        for (int k = 0; k < 8; k++) {
            Expect.fill(log, 400, k);
            log.raw(k == 0 ? 2 : 3);
            Expect.fill(log, 98, k);
            log.raw(k == 7 ? 4 : 3);
            due += 498;
        }
        Expect.same("11: a record of more than 400 bytes", log.read(), due);
        Expect.same("12: its last byte", log.octet(due - 1), 7 + 97);
        Expect.same("12: none behind", log.octet(due), NONE);
        Expect.same("13: first", log.first(), 0);
    }

    private static void endInsideARecord() {
        FragmentLog log = new FragmentLog();
        Expect.raw(log, 2, 3);
        Expect.same("11: FIRST alone", log.read(), NONE);
        Expect.same("11: nothing told", log.count(3), 0);
        Expect.same("14: place behind FIRST", log.count(1), 10);
        Expect.same("13: no first", log.first(), NONE);
        Expect.same("12: no octet", log.octet(0), NONE);
        Expect.raw(log, 4, 5);
        Expect.same("11: what it had is dropped", log.read(), NONE);
        Expect.same("15: LAST is unbegun", Expect.toldBy(log), "5/5");
        log.begin(0);
        Expect.same("11: from the beginning it is whole", log.read(), 8);
    }

    private static void endInsideAHead() {
        for (int left = 1; left <= 6; left++) {
            FragmentLog log = new FragmentLog();
            Expect.append(log, 3);
            Expect.append(log, 4);
            int[] rest = new int[11];
            for (int k = 0; k < 11; k++) {
                rest[k] = log.log(10 + k);
            }
            log.cut(10 + left);
            Expect.same("11: before a head's " + left + " bytes", log.read(), 3);
            Expect.same("11: in it", log.read(), NONE);
            Expect.same("14: the place stays", log.count(1), 10);
            Expect.same("11: nothing told", log.count(3), 0);
            Expect.raw(log, 200, 30);
            for (int k = left; k < 11; k++) {
                log.put(10 + k, rest[k]);
            }
            Expect.same("11: it goes on with what was not read", log.read(), 4);
        }
    }

    private static void endInsideAFragment() {
        FragmentLog log = new FragmentLog();
        Expect.append(log, 3);
        Expect.append(log, 40);
        log.cut(56);
        log.read();
        Expect.same("11: a byte lacks", log.read(), NONE);
        Expect.same("14: the place stays", log.count(1), 10);
        Expect.same("11: nothing told", log.count(3), 0);
        Expect.append(log, 1);
        Expect.same("11: a byte came, the wrong one", log.read(), NONE);
        Expect.same("15: CHECKED, with what is left of the block", Expect.toldBy(log), "2/54");
    }

    private static void endOfAWholeBlock() {
        FragmentLog log = new FragmentLog();
        Expect.append(log, 54);
        Expect.append(log, 2);
        log.cut(64);
        Expect.same("11: before the zeros", log.read(), 54);
        Expect.same("14: place", log.count(1), 61);
        Expect.same("11: behind them", log.read(), NONE);
        Expect.same("14: at the next block", log.count(1), 64);
        Expect.same("11: again", log.read(), NONE);
        Expect.same("14: and no farther", log.count(1), 64);
        Expect.append(log, 5);
        Expect.same("11: more bytes came", log.read(), 5);
        log.cut(62);
        log.read();
        Expect.same("11: zeros of a block that is not whole", log.read(), NONE);
        Expect.same("14: the place stays", log.count(1), 61);
        Expect.append(log, 6);
        Expect.same("11: whole now", log.read(), 6);
        Expect.same("13: in the next block", log.first(), 64);
    }

    private static void beyond() {
        FragmentLog log = new FragmentLog();
        Expect.append(log, 3);
        Expect.append(log, 40);
        Expect.append(log, 30);
        log.put(14, 48);
        log.read();
        Expect.same("11: one byte beyond", log.read(), NONE);
        Expect.same("15: BEYOND, then the LAST", Expect.toldBy(log), "1/54 5/30");
        log.put(14, 47);
        log.begin(0);
        log.read();
        log.read();
        Expect.same("15: just up to the block's end is CHECKED", Expect.toldBy(log), "2/54 5/30");
        log.put(14, 40);
        log.put(15, 255);
        log.begin(0);
        log.read();
        log.read();
        Expect.same("15: the length's high byte", Expect.toldBy(log), "1/54 5/30");
    }

    private static void beyondInAWholeLastBlock() {
        FragmentLog log = new FragmentLog();
        Expect.append(log, 3);
        Expect.append(log, 40);
        Expect.append(log, 30);
        log.put(14, 48);
        log.cut(64);
        log.read();
        Expect.same("11: none", log.read(), NONE);
        Expect.same("15: a whole block is not the last one", Expect.toldBy(log), "1/54");
        Expect.same("14: place", log.count(1), 64);
        log.cut(63);
        log.read();
        Expect.same("11: none", log.read(), NONE);
        Expect.same("15: not whole: the end", Expect.toldBy(log), "");
        Expect.same("14: place", log.count(1), 10);
    }

    private static void checked() {
        for (int place : new int[] {10, 11, 12, 13, 14, 16, 17, 36}) {
            FragmentLog log = new FragmentLog();
            Expect.append(log, 3);
            Expect.append(log, 20);
            Expect.append(log, 0);
            Expect.append(log, 60);
            log.put(place, log.log(place) ^ 1);
            Expect.same("11: before byte " + place, log.read(), 3);
            Expect.same("11: behind it", log.read(), NONE);
            Expect.same("15: CHECKED by byte " + place, Expect.toldBy(log), "2/54 5/47");
            Expect.same("14: bytes told", log.count(4), 101);
        }
    }

    private static void checkedInTheLastBlock() {
        FragmentLog log = new FragmentLog();
        Expect.append(log, 3);
        Expect.append(log, 5);
        log.put(0, log.log(0) ^ 128);
        Expect.same("11: none", log.read(), NONE);
        Expect.same("15: as many bytes as there are", Expect.toldBy(log), "2/22");
        Expect.same("14: place", log.count(1), 22);
        Expect.append(log, 6);
        Expect.same("11: it goes on in the block", log.read(), 6);
        Expect.same("13: first", log.first(), 22);
    }

    private static void passedOver() {
        FragmentLog log = new FragmentLog();
        Expect.raw(log, 0, 0);
        Expect.raw(log, 1, 0);
        Expect.same("11: KIND 0 without bytes", log.read(), NONE);
        Expect.same("14: the block as it is now", log.count(1), 14);
        Expect.append(log, 2);
        Expect.same("11: more bytes", log.read(), 2);
        log.cut(0);
        Expect.raw(log, 0, 0);
        log.put(0, 77);
        Expect.append(log, 60);
        Expect.same("11: its check does not matter", log.read(), NONE);
        Expect.same("15: the LAST in the next block", Expect.toldBy(log), "5/10");
        log.cut(0);
        Expect.raw(log, 2, 4);
        Expect.raw(log, 0, 0);
        Expect.same("11: none", log.read(), NONE);
        Expect.same("15: it breaks a record", Expect.toldBy(log), "3/4");
        log.cut(0);
        Expect.raw(log, 0, 1);
        Expect.raw(log, 1, 2);
        Expect.same("11: KIND 0 with bytes is another one", log.read(), 2);
        Expect.same("15: UNKNOWN", Expect.toldBy(log), "6/1");
    }

    private static void torn() {
        FragmentLog log = new FragmentLog();
        Expect.append(log, 150);
        Expect.append(log, 2);
        log.put(100, log.log(100) ^ 4);
        Expect.same("11: behind the damage", log.read(), 2);
        Expect.same("15: CHECKED, TORN, UNBEGUN", Expect.toldBy(log), "2/64 3/57 5/36");
        log.put(69, 1);
        log.begin(0);
        log.read();
        Expect.same("15: BEYOND, TORN, UNBEGUN", Expect.toldBy(log), "1/64 3/57 5/36");
        log.clear(64);
        Expect.append(log, 50);
        Expect.append(log, 5);
        Expect.append(log, 1);
        log.put(64, log.log(64) ^ 1);
        log.read();
        Expect.same("11: none", log.read(), NONE);
        Expect.same("15: TORN also without a byte", Expect.toldBy(log), "2/20 3/0");
    }

    private static void unended() {
        FragmentLog log = new FragmentLog();
        log.clear(512);
        Expect.raw(log, 2, 4);
        Expect.raw(log, 3, 5);
        Expect.raw(log, 1, 6);
        Expect.raw(log, 2, 0);
        Expect.raw(log, 1, 7);
        Expect.raw(log, 2, 8);
        Expect.raw(log, 2, 9);
        Expect.raw(log, 4, 1);
        Expect.raw(log, 2, 0);
        Expect.raw(log, 2, 2);
        Expect.raw(log, 4, 0);
        Expect.same("11: ALL behind others", log.read(), 6);
        Expect.same("15: UNENDED", Expect.toldBy(log), "4/9");
        Expect.same("13: first", log.first(), 23);
        Expect.same("11: ALL behind none", log.read(), 7);
        Expect.same("15: no bytes, nothing told", Expect.toldBy(log), "4/9");
        Expect.same("11: FIRST behind a FIRST", log.read(), 10);
        Expect.same("12: octet(8), octet(9)", log.octet(8) * 100 + log.octet(9), 1004);
        Expect.same("13: the later FIRST", log.first(), 72);
        Expect.same("15: UNENDED again", Expect.toldBy(log), "4/9 4/8");
        Expect.same("11: FIRST behind an empty one", log.read(), 2);
        Expect.same("15: nothing more", Expect.toldBy(log), "4/9 4/8");
        Expect.same("14: bytes", log.count(4), 17);
    }

    private static void unbegun() {
        FragmentLog log = new FragmentLog();
        log.clear(512);
        Expect.raw(log, 3, 4);
        Expect.raw(log, 4, 5);
        Expect.raw(log, 3, 0);
        Expect.raw(log, 1, 1);
        Expect.raw(log, 4, 2);
        Expect.raw(log, 2, 1);
        Expect.raw(log, 4, 0);
        Expect.raw(log, 4, 3);
        Expect.same("11: read()", log.read(), 1);
        Expect.same("15: UNBEGUN", Expect.toldBy(log), "5/4 5/5 5/0");
        Expect.same("11: read()", log.read(), 1);
        Expect.same("11: read()", log.read(), NONE);
        Expect.same("15: behind whole records too", Expect.toldBy(log), "5/4 5/5 5/0 5/2 5/3");
    }

    private static void unknown() {
        FragmentLog log = new FragmentLog();
        log.clear(512);
        Expect.raw(log, 5, 4);
        Expect.raw(log, 2, 3);
        Expect.raw(log, 255, 6);
        Expect.raw(log, 4, 1);
        Expect.raw(log, 2, 2);
        Expect.raw(log, 3, 2);
        Expect.raw(log, 9, 0);
        Expect.raw(log, 1, 8);
        Expect.same("11: read()", log.read(), 8);
        Expect.same("15: UNKNOWN with what it had", Expect.toldBy(log), "6/4 6/9 5/1 6/4");
    }

    private static void octetAndFirst() {
        FragmentLog log = new FragmentLog();
        Expect.append(log, 60);
        Expect.append(log, 2);
        log.read();
        Expect.same("12: octet(57) of the second fragment", log.octet(57), 117);
        for (int k : new int[] {-1, 60, 400, 5000, Integer.MIN_VALUE, Integer.MAX_VALUE}) {
            Expect.same("12: octet(" + k + ")", log.octet(k), NONE);
        }
        log.begin(30);
        Expect.same("12: begin is no read", log.octet(0), 60);
        Expect.same("13: begin is no read", log.first(), 0);
        log.read();
        Expect.same("13: first", log.first(), 74);
        log.read();
        Expect.same("12: none read", log.octet(0), NONE);
        Expect.same("13: none read", log.first(), NONE);
        log.begin(0);
        log.read();
        log.cut(0);
        Expect.same("12: cut is no read", log.octet(59), 119);
        log.clear(64);
        Expect.same("13: clear is no read", log.first(), 0);
        Expect.append(log, 0);
        log.read();
        Expect.same("12: a record without bytes", log.octet(0), NONE);
        Expect.same("13: a record without bytes", log.first(), 0);
    }

    private static void count() {
        FragmentLog log = new FragmentLog();
        Expect.raw(log, 3, 4);
        Expect.raw(log, 9, 7);
        Expect.append(log, 1);
        log.begin(0);
        log.read();
        Expect.fill(log, 13, 0);
        int[] due = {33, 33, 0, 2, 11, 13};
        for (int what = 0; what <= 5; what++) {
            Expect.same("14: count(" + what + ")", log.count(what), due[what]);
        }
        log.begin(5);
        Expect.same("14: lost", log.count(2), 1);
        for (int what : new int[] {-1, 6, Integer.MIN_VALUE, Integer.MAX_VALUE}) {
            Expect.thrown("14: count(" + what + ")", log, ARGUMENT, () -> log.count(what));
        }
    }

    private static void told() {
        FragmentLog log = new FragmentLog();
        log.clear(512);
        for (int k = 0; k < 111; k++) {
            Expect.raw(log, k % 2 == 0 ? 3 : 200, k % 37 == 36 ? 1 : 7);
        }
        Expect.same("11: none", log.read(), NONE);
        Expect.same("14: all are counted", log.count(3), 111);
        Expect.same("14: all bytes are counted", log.count(4), 3 * (36 * 7 + 1));
        for (int k = 0; k < 111; k++) {
            boolean kept = k < 100;
            int which = k % 2 == 0 ? FragmentLog.UNBEGUN : FragmentLog.UNKNOWN;
            Expect.same("15: told(" + k + ", 0)", log.told(k, 0), kept ? which : NONE);
            Expect.same("15: told(" + k + ", 1)", log.told(k, 1), !kept ? NONE : k % 37 == 36 ? 1 : 7);
        }
        for (int k : new int[] {-1, 100, 1000, Integer.MIN_VALUE, Integer.MAX_VALUE}) {
            Expect.same("15: told(" + k + ", 0)", log.told(k, 0), NONE);
            Expect.same("15: told(" + k + ", 1)", log.told(k, 1), NONE);
        }
        for (int what : new int[] {-1, 2, Integer.MIN_VALUE, Integer.MAX_VALUE}) {
            Expect.thrown("15: told(0, " + what + ")", log, ARGUMENT, () -> log.told(0, what));
            Expect.thrown("15: told(-1, " + what + ")", log, ARGUMENT, () -> log.told(-1, what));
        }
    }
}
