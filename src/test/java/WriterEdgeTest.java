import java.util.zip.CRC32C;

/** The edges that promises 1 to 9 and 16 and their terms name, a sentence a test; what is refused is in RefusedTest. */
final class WriterEdgeTest {
    private static final int NONE = FragmentLog.NONE;
    private static final int FULL = FragmentLog.FULL;

    public static void main(String[] args) {
        aNewObjectIsEmpty();
        aNewSizeIs64();
        aNewReaderHasBegunAt0();
        clearTakesEverySize();
        clearEmptiesAFullLog();
        clearBeginsAt0();
        clearForgetsWhatWasTold();
        clearLeavesTheBuffer();
        feedTakes0To16();
        feedTakesTheHighestFirst();
        feedUpTo400();
        eraseAnEmptyAndAFullBuffer();
        checkOfEveryKind();
        checkOfAnEmptyAndAFullBuffer();
        checkWrapsAround();
        theCheckAndTheLengthLieLowestFirst();
        lessThanSevenBytesBecome0();
        sevenBytesLeftHoldAFragment();
        aRecordWithoutBytesHasOneFragment();
        asManyBytesAsFit();
        whatIsLeftIsOneFragmentMore();
        appendBehindWhatGoesBeyondABlock();
        appendLeavesTheBuffer();
        appendUpTo4096();
        appendUpTo4096InsideABlock();
        rawOfEveryKind();
        rawWhateverLiesThere();
        rawUpTo4096();
        putTheFirstAndTheLastByte();
        putEveryValue();
        cutNoneAndAll();
        cutBeginsAt0();
        cutForgetsWhatWasTold();
        whatWasCutIsGone();
        logHasItsFirstAndLastByte();
        the512thCallAnswers();
        Expect.end("WriterEdgeTest");
    }

    /** "An empty LOG and BUFFER" */
    private static void aNewObjectIsEmpty() {
        Asked log = new Asked();
        Expect.same("1: bytes of the log", log.count(0), 0);
        Expect.same("1: bytes of the buffer", log.count(5), 0);
        Expect.same("1: log(0)", log.log(0), NONE);
        Expect.same("1: erase()", log.erase(), 0);
        Expect.same("1: cut(0)", log.cut(0), 0);
        Expect.same("1: read()", log.read(), NONE);
    }

    /** "SIZE is 64" */
    private static void aNewSizeIs64() {
        Expect.same("1: 57 bytes fit a block", Expect.append(new Asked(), 57), 64);
        Expect.same("1: 58 bytes do not", Expect.append(new Asked(), 58), 72);
        Expect.same("1: begin(57)", new Asked().begin(57), 0);
        Expect.same("1: begin(58)", new Asked().begin(58), 64);
    }

    /** "the READER has begun at 0" */
    private static void aNewReaderHasBegunAt0() {
        Asked log = new Asked();
        for (int what = 1; what <= 4; what++) {
            Expect.same("1: count(" + what + ")", log.count(what), 0);
        }
        Expect.same("1: first()", log.first(), NONE);
        Expect.same("1: octet(0)", log.octet(0), NONE);
        Expect.same("1: told(0, 0)", log.told(0, 0), NONE);
        Expect.raw(log, 4, 1);
        Expect.append(log, 2);
        Expect.same("1: from the first byte on", log.read(), 2);
        Expect.same("1: it is not lost", Expect.toldBy(log), "5/1");
    }

    /** "SIZE 16 .. 512 from now on" */
    private static void clearTakesEverySize() {
        for (int size = 16; size <= 512; size++) {
            Asked log = new Asked();
            log.clear(size);
            int parts = (400 + size - 8) / (size - 7);
            Expect.same("2: 400 bytes in blocks of " + size, Expect.append(log, 400), 400 + 7 * parts);
            Expect.same("2: begin in blocks of " + size, log.begin(size - 7), 0);
            Expect.same("2: begin in blocks of " + size + ", 6 left", log.begin(size - 6), size);
        }
    }

    /** "THE LOG is empty" */
    private static void clearEmptiesAFullLog() {
        Asked log = logOf(4096, 64);
        log.clear(512);
        Expect.same("2: bytes", log.count(0), 0);
        Expect.same("2: log(0)", log.log(0), NONE);
        Expect.same("2: log(4095)", log.log(4095), NONE);
        Expect.same("2: read()", log.read(), NONE);
        Expect.same("2: from 0 on", Expect.append(log, 0), 7);
        log.clear(16);
        log.clear(16);
        Expect.same("2: an empty log", log.count(0), 0);
    }

    /** "the READER has begun at 0" */
    private static void clearBeginsAt0() {
        Asked log = new Asked();
        log.begin(4096);
        log.clear(64);
        Expect.same("2: place", log.count(1), 0);
        Expect.same("2: lost", log.count(2), 0);
        Expect.append(log, 3);
        Expect.same("2: what begins at 0 is not before", log.read(), 3);
    }

    /** "nothing is told" */
    private static void clearForgetsWhatWasTold() {
        Asked log = new Asked();
        Expect.raw(log, 9, 3);
        log.read();
        Expect.same("2: told before", log.count(3) * 10 + log.count(4), 13);
        log.clear(64);
        Expect.same("2: how often", log.count(3), 0);
        Expect.same("2: bytes", log.count(4), 0);
        Expect.same("2: told(0, 0)", log.told(0, 0), NONE);
        Expect.same("2: told(0, 1)", log.told(0, 1), NONE);
    }

    private static void clearLeavesTheBuffer() {
        Asked log = new Asked();
        Expect.fill(log, 400, 5);
        int check = log.check(1);
        log.clear(16);
        Expect.same("2: the buffer's bytes", log.count(5), 400);
        Expect.same("2: the buffer's check", log.check(1), check);
    }

    /** "Up to sixteen bytes more in THE BUFFER, four in each number ..., many of them" */
    private static void feedTakes0To16() {
        for (int many = 0; many <= 16; many++) {
            Asked log = new Asked();
            Expect.same("3: feed(" + many + ")", log.feed(many, 0x81828384, 0x85868788, 0x898A8B8C, 0x8D8E8F90), many);
            log.append();
            for (int k = 0; k < 16; k++) {
                Expect.same("3: byte " + k + " of " + many, log.log(7 + k), k < many ? 0x81 + k : NONE);
            }
        }
    }

    /** "the highest first" */
    private static void feedTakesTheHighestFirst() {
        Asked log = new Asked();
        log.feed(16, 0x000000FF, 0x0000FF00, 0x00FF0000, 0xFF000000);
        log.append();
        for (int k = 0; k < 16; k++) {
            Expect.same("3: byte " + k, log.log(7 + k), k == 3 || k == 6 || k == 9 || k == 12 ? 255 : 0);
        }
    }

    /** "IllegalState: there would be more than 400." */
    private static void feedUpTo400() {
        Asked log = new Asked();
        for (int k = 1; k <= 25; k++) {
            Expect.same("3: 16 more", log.feed(16, k, k, k, k), 16 * k);
        }
        Expect.same("3: none more", log.feed(0, 1, 2, 3, 4), 400);
        Expect.thrown("3: the 401st", log, IllegalStateException.class, full -> full.feed(1, 0, 0, 0, 0));
        log.erase();
        Expect.same("3: once more", log.feed(16, 0, 0, 0, 0), 16);
    }

    /** "THE BUFFER is empty: how many bytes it had" */
    private static void eraseAnEmptyAndAFullBuffer() {
        Asked log = new Asked();
        Expect.same("4: an empty buffer", log.erase(), 0);
        Expect.fill(log, 400, 1);
        Expect.same("4: a full buffer", log.erase(), 400);
        Expect.same("4: how many it has", log.count(5), 0);
        Expect.same("4: its check", log.check(1), new Asked().check(1));
        Expect.same("4: again", log.erase(), 0);
        log.feed(1, 0, 0, 0, 0);
        Expect.same("4: one byte", log.erase(), 1);
    }

    private static int turnedAndAdded(long sum) {
        return Integer.rotateRight((int) sum, 15) + 0xA282EAD8;
    }

    /** "The CHECK of the bytes of THE BUFFER, as those of a FRAGMENT of this KIND, 0 .. 255" */
    private static void checkOfEveryKind() {
        Asked log = new Asked();
        for (int kind = 0; kind <= 255; kind++) {
            CRC32C sum = new CRC32C();
            sum.update(kind);
            Expect.same("5: check(" + kind + ")", log.check(kind), turnedAndAdded(sum.getValue()));
        }
        Expect.same("5: the buffer stays", log.count(5), 0);
    }

    /** The sums are those that RFC 3720 and the polynomial's catalogue tell. */
    private static void checkOfAnEmptyAndAFullBuffer() {
        Asked log = new Asked();
        Expect.same("5: no bytes, KIND 1", log.check(1), 0x43282B05);
        log.feed(8, 0x32333435, 0x36373839, 0, 0);
        Expect.same("5: 1 .. 9 as text", log.check(0x31), turnedAndAdded(0xE3069283L));
        log.erase();
        log.feed(16, 0, 0, 0, 0);
        log.feed(15, 0, 0, 0, 0);
        Expect.same("5: 32 times 0", log.check(0), turnedAndAdded(0x8A9136AAL));
        log.erase();
        log.feed(16, -1, -1, -1, -1);
        log.feed(15, -1, -1, -1, -1);
        Expect.same("5: 32 times 255", log.check(255), turnedAndAdded(0x62A8AB43L));
        Expect.fill(log, 31, 1);
        Expect.same("5: 0 .. 31", log.check(0), turnedAndAdded(0x46DD794EL));
        Expect.fill(log, 400, 9);
        CRC32C sum = new CRC32C();
        for (int k = 0; k <= 400; k++) {
            sum.update(8 + k);
        }
        Expect.same("5: 400 bytes", log.check(8), turnedAndAdded(sum.getValue()));
        Expect.same("5: the buffer stays", log.count(5), 400);
    }

    /** "as a number of 32 bits, turned by 15 bits to the right ..., and 0xA282EAD8 added to it" */
    private static void checkWrapsAround() {
        int[][] due = {{0x1773F1BF, 0}, {0x5B14CF6C, -1}, {0x383889E0, Integer.MIN_VALUE},
            {0x745FB733, Integer.MAX_VALUE}, {0xF94BF63B, 0xA282EAD8}};
        for (int[] row : due) {
            Asked log = new Asked();
            log.feed(4, row[0], 0, 0, 0);
            Expect.same("5: check of " + Integer.toHexString(row[0]), log.check(1), row[1]);
            log.append();
            Expect.same("11: and it is right", log.read(), 4);
        }
    }

    private static void fragmentIs(String call, Asked log, int place, int kind, int length) {
        CRC32C sum = new CRC32C();
        sum.update(kind);
        for (int k = 0; k < length; k++) {
            sum.update(log.log(place + 7 + k));
        }
        int check = turnedAndAdded(sum.getValue());
        for (int k = 0; k < 4; k++) {
            Expect.same(call + ": check byte " + k, log.log(place + k), check >> 8 * k & 255);
        }
        Expect.same(call + ": low byte of the length", log.log(place + 4), length & 255);
        Expect.same(call + ": high byte of the length", log.log(place + 5), length >> 8);
        Expect.same(call + ": kind", log.log(place + 6), kind);
    }

    /** "four bytes of a CHECK, two of a length, each the lowest first, a KIND" */
    private static void theCheckAndTheLengthLieLowestFirst() {
        for (int length : new int[] {0, 1, 255, 256, 257, 399, 400}) {
            Asked log = new Asked();
            log.clear(512);
            Expect.same("6: " + length + " bytes", Expect.append(log, length), 7 + length);
            fragmentIs("6: " + length + " bytes", log, 0, 1, length);
        }
    }

    /** "if less than 7 bytes are left in the BLOCK, these become 0, and the next BLOCK begins" */
    private static void lessThanSevenBytesBecome0() {
        for (int size : new int[] {16, 17, 64, 241, 511, 512}) {
            for (int left = 0; left <= 6; left++) {
                Asked log = new Asked();
                Expect.leave(log, size, left);
                String call = "6: " + left + " of " + size + " bytes left";
                Expect.same(call, Expect.append(log, 2), size + 9);
                for (int k = size - left; k < size; k++) {
                    Expect.same(call + ", byte " + k, log.log(k), 0);
                }
                fragmentIs(call, log, size, 1, 2);
            }
        }
    }

    /** "As many bytes of it as fit behind the 7 (perhaps none) are one FRAGMENT" */
    private static void sevenBytesLeftHoldAFragment() {
        for (int size : new int[] {16, 17, 64, 241, 511, 512}) {
            Asked log = new Asked();
            Expect.leave(log, size, 7);
            Expect.same("6: none fit", Expect.append(log, 2), size + 9);
            fragmentIs("6: FIRST without bytes, " + size, log, size - 7, 2, 0);
            fragmentIs("6: LAST with all of them, " + size, log, size, 4, 2);
            log = new Asked();
            Expect.leave(log, size, 8);
            Expect.same("6: one fits", Expect.append(log, 2), size + 8);
            fragmentIs("6: FIRST with one byte, " + size, log, size - 8, 2, 1);
            fragmentIs("6: LAST with the other, " + size, log, size, 4, 1);
            log = new Asked();
            Expect.leave(log, size, 9);
            Expect.same("6: both fit", Expect.append(log, 2), size);
            fragmentIs("6: ALL, " + size, log, size - 9, 1, 2);
        }
    }

    /** "a RECORD without bytes has one" */
    private static void aRecordWithoutBytesHasOneFragment() {
        for (int size : new int[] {16, 64, 512}) {
            for (int left = 0; left <= 9; left++) {
                Asked log = new Asked();
                Expect.leave(log, size, left);
                int place = left < 7 ? size : size - left;
                String call = "6: no bytes with " + left + " of " + size + " left";
                Expect.same(call, Expect.append(log, 0), place + 7);
                fragmentIs(call, log, place, 1, 0);
            }
        }
        Expect.same("6: no bytes in an empty log", Expect.append(new Asked(), 0), 7);
    }

    /** "As many bytes of it as fit": just a block's, and one more. */
    private static void asManyBytesAsFit() {
        for (int size : new int[] {16, 17, 64, 241, 407}) {
            Asked log = new Asked();
            log.clear(size);
            Expect.same("6: all of a block of " + size, Expect.append(log, size - 7), size);
            fragmentIs("6: ALL", log, 0, 1, size - 7);
            if (size < 407) {
                log = new Asked();
                log.clear(size);
                Expect.same("6: one more", Expect.append(log, size - 6), size + 8);
                fragmentIs("6: FIRST", log, 0, 2, size - 7);
                fragmentIs("6: LAST", log, size, 4, 1);
            }
        }
        Asked log = new Asked();
        log.clear(406);
        Expect.same("6: 400 bytes, a block of 406", Expect.append(log, 400), 414);
    }

    /** "what is left is one FRAGMENT more, and so on" */
    private static void whatIsLeftIsOneFragmentMore() {
        Asked log = new Asked();
        Expect.same("6: two blocks", Expect.append(log, 114), 128);
        fragmentIs("6: two blocks, FIRST", log, 0, 2, 57);
        fragmentIs("6: two blocks, LAST", log, 64, 4, 57);
        log = new Asked();
        Expect.same("6: a byte more", Expect.append(log, 115), 136);
        fragmentIs("6: a byte more, FIRST", log, 0, 2, 57);
        fragmentIs("6: a byte more, MIDDLE", log, 64, 3, 57);
        fragmentIs("6: a byte more, LAST", log, 128, 4, 1);
        log = new Asked();
        Expect.leave(log, 16, 7);
        Expect.same("6: 400 bytes, the smallest blocks", Expect.append(log, 400), 16 + 44 * 16 + 11);
        fragmentIs("6: smallest, FIRST", log, 9, 2, 0);
        fragmentIs("6: smallest, MIDDLE", log, 16, 3, 9);
        fragmentIs("6: smallest, the last MIDDLE", log, 16 + 43 * 16, 3, 9);
        fragmentIs("6: smallest, LAST", log, 16 + 44 * 16, 4, 4);
        Expect.same("6: smallest, the last byte", log.log(730), 400 + 399 & 255);
    }

    /** What is left in the BLOCK is counted from the log's end, whatever lies before it. */
    private static void appendBehindWhatGoesBeyondABlock() {
        Asked log = new Asked();
        log.clear(16);
        Expect.raw(log, 1, 16);
        Expect.same("6: at 23, nine left", Expect.append(log, 3), 23 + 9 + 8);
        fragmentIs("6: FIRST", log, 23, 2, 2);
        fragmentIs("6: LAST", log, 32, 4, 1);
        log.clear(16);
        Expect.raw(log, 1, 19);
        Expect.same("6: at 26, six left", Expect.append(log, 3), 42);
        fragmentIs("6: ALL", log, 32, 1, 3);
    }

    /** "THE BUFFER is APPENDED as a RECORD, and stays" */
    private static void appendLeavesTheBuffer() {
        Asked log = new Asked();
        Expect.fill(log, 400, 2);
        int check = log.check(1);
        Expect.same("6: once", log.append(), 456);
        Expect.same("6: bytes", log.count(5), 400);
        Expect.same("6: check", log.check(1), check);
        Expect.same("6: twice", log.append(), 456 + 456);
        Expect.same("7: raw", log.raw(1), 912 + 407);
        Expect.same("7: bytes", log.count(5), 400);
        Expect.same("7: check", log.check(1), check);
    }

    private static Asked logOf(int bytes, int size) {
        Asked log = new Asked();
        log.clear(size);
        Expect.fill(log, 400, 1);
        for (int k = 0; k < 10; k++) {
            log.raw(1);
        }
        Expect.raw(log, 1, 19);
        log.cut(bytes);
        return log;
    }

    /** "or FULL: they would be more than 4096" */
    private static void appendUpTo4096() {
        Expect.same("6: no bytes at 4089", Expect.append(logOf(4089, 64), 0), 4096);
        Expect.same("6: one byte at 4089", Expect.append(logOf(4089, 64), 1), FULL);
        Expect.same("6: no bytes at 4090", Expect.append(logOf(4090, 64), 0), FULL);
        Expect.same("6: no bytes at 4096", Expect.append(logOf(4096, 64), 0), FULL);
        Expect.same("6: one byte at 4088", Expect.append(logOf(4088, 64), 1), 4096);
        Expect.same("6: 57 bytes behind zeros", Expect.append(logOf(4026, 64), 57), 4096);
        Expect.same("6: 58 bytes behind zeros", Expect.append(logOf(4026, 64), 58), FULL);
        Expect.same("6: FIRST without bytes, then 57", Expect.append(logOf(4025, 64), 57), 4096);
        Expect.same("6: FIRST without bytes, then 58", Expect.append(logOf(4025, 64), 58), FULL);
        Expect.same("6: 400 bytes at 3689", Expect.append(logOf(3689, 512), 400), 4096);
        Expect.same("6: 400 bytes at 3690", Expect.append(logOf(3690, 512), 400), FULL);
        Asked log = logOf(4089, 64);
        Expect.append(log, 0);
        Expect.same("6: the log has 4096", log.count(0), 4096);
        fragmentIs("6: the last fragment", log, 4089, 1, 0);
    }

    /** "BLOCKS of SIZE bytes (the last one may be shorter)" */
    private static void appendUpTo4096InsideABlock() {
        Expect.same("6: 4096 of blocks of 100", Expect.append(logOf(4000, 100), 89), 4096);
        Expect.same("6: 4097 of blocks of 100", Expect.append(logOf(4000, 100), 90), FULL);
        Expect.same("6: zeros up to 4097", Expect.append(logOf(4092, 241), 0), FULL);
        Expect.same("6: zeros up to 4095", Expect.append(logOf(4089, 65), 0), FULL);
    }

    /** "as one FRAGMENT of this KIND, 0 .. 255" */
    private static void rawOfEveryKind() {
        for (int kind = 0; kind <= 255; kind++) {
            Asked log = new Asked();
            log.feed(2, kind << 24 | 0x550000, 0, 0, 0);
            Expect.same("7: raw(" + kind + ")", log.raw(kind), 9);
            fragmentIs("7: raw(" + kind + ")", log, 0, kind, 2);
        }
    }

    /** "is put behind THE LOG ..., whatever lies there" */
    private static void rawWhateverLiesThere() {
        for (int left = 0; left <= 8; left++) {
            Asked log = new Asked();
            Expect.leave(log, 16, left);
            Expect.same("7: raw with " + left + " left", Expect.raw(log, 3, 4), 16 - left + 11);
            fragmentIs("7: raw with " + left + " left", log, 16 - left, 3, 4);
        }
        Asked log = new Asked();
        log.clear(16);
        Expect.same("7: 400 bytes", Expect.raw(log, 2, 400), 407);
        fragmentIs("7: 400 bytes", log, 0, 2, 400);
        Expect.same("7: no bytes", Expect.raw(log, 2, 0), 414);
        fragmentIs("7: no bytes", log, 407, 2, 0);
    }

    /** "how many bytes THE LOG has; or FULL" */
    private static void rawUpTo4096() {
        Expect.same("7: no bytes at 4089", Expect.raw(logOf(4089, 512), 1, 0), 4096);
        Expect.same("7: one byte at 4089", Expect.raw(logOf(4089, 512), 1, 1), FULL);
        Expect.same("7: no bytes at 4090", Expect.raw(logOf(4090, 512), 1, 0), FULL);
        Expect.same("7: no bytes at 4096", Expect.raw(logOf(4096, 512), 1, 0), FULL);
        Expect.same("7: 400 bytes at 3689", Expect.raw(logOf(3689, 16), 1, 400), 4096);
        Expect.same("7: 400 bytes at 3690", Expect.raw(logOf(3690, 16), 1, 400), FULL);
    }

    /** "A byte of THE LOG becomes another one: what it was. IndexOutOfBounds: there is none." */
    private static void putTheFirstAndTheLastByte() {
        Class<?> index = IndexOutOfBoundsException.class;
        Expect.thrown("8: an empty log", new Asked(), index, log -> log.put(0, 0));
        Asked log = logOf(4096, 64);
        int first = log.log(0);
        int second = log.log(1);
        int lastButOne = log.log(4094);
        Expect.same("8: the first", log.put(0, 255 - first), first);
        Expect.same("8: the last", log.put(4095, 201), 19);
        Expect.same("8: the first now", log.log(0), 255 - first);
        Expect.same("8: the last now", log.log(4095), 201);
        Expect.same("8: the second stays", log.log(1), second);
        Expect.same("8: the last but one stays", log.log(4094), lastButOne);
        Expect.thrown("8: put(4096, 0)", log, index, full -> full.put(4096, 0));
        Expect.thrown("8: put(-1, 0)", log, index, full -> full.put(-1, 0));
        log.cut(4095);
        Expect.thrown("8: what was cut", log, index, full -> full.put(4095, 0));
    }

    /** "IllegalArgument: not 0 .. 255." */
    private static void putEveryValue() {
        Asked log = new Asked();
        Expect.append(log, 1);
        int was = 1;
        for (int value = 0; value <= 255; value++) {
            Expect.same("8: put(7, " + value + ")", log.put(7, value), was);
            was = value;
        }
        Expect.same("8: put(7, 255)", log.log(7), 255);
        Expect.thrown("8: put(7, 256)", log, IllegalArgumentException.class, one -> one.put(7, 256));
        Expect.thrown("8: put(7, -1)", log, IllegalArgumentException.class, one -> one.put(7, -1));
    }

    /** "The first n bytes of THE LOG alone stay: how many are gone." */
    private static void cutNoneAndAll() {
        Asked log = logOf(4096, 64);
        Expect.same("9: none", log.cut(4096), 0);
        Expect.same("9: all are there", log.log(4095), 19);
        Expect.same("9: one", log.cut(4095), 1);
        Expect.same("9: it is gone", log.log(4095), NONE);
        Expect.thrown("9: more than there are", log, IllegalArgumentException.class, cut -> cut.cut(4096));
        Expect.same("9: all but one", log.cut(1), 4094);
        Expect.same("9: one is left", log.count(0), 1);
        Expect.same("9: the last one", log.cut(0), 1);
        Expect.same("9: none of none", log.cut(0), 0);
        Expect.thrown("9: one of none", log, IllegalArgumentException.class, cut -> cut.cut(1));
    }

    /** "The READER has begun at 0" */
    private static void cutBeginsAt0() {
        Asked log = new Asked();
        Expect.append(log, 3);
        Expect.append(log, 100);
        log.begin(100);
        Expect.same("9: none is gone", log.cut(log.count(0)), 0);
        Expect.same("9: place", log.count(1), 0);
        Expect.same("9: lost", log.count(2), 0);
        Expect.same("9: what begins at 0 is not before", log.read(), 3);
        Expect.same("9: and the next one", log.read(), 100);
    }

    /** "nothing is told" */
    private static void cutForgetsWhatWasTold() {
        Asked log = new Asked();
        Expect.raw(log, 3, 4);
        log.read();
        Expect.same("9: told before", log.count(3) * 10 + log.count(4), 14);
        log.cut(11);
        Expect.same("9: how often", log.count(3), 0);
        Expect.same("9: bytes", log.count(4), 0);
        Expect.same("9: told(0, 0)", log.told(0, 0), NONE);
    }

    /** What is behind the n bytes does not come back with the next ones; zeros are 0. */
    private static void whatWasCutIsGone() {
        Asked log = new Asked();
        Expect.append(log, 57);
        log.cut(59);
        Expect.append(log, 1);
        for (int k = 59; k < 64; k++) {
            Expect.same("6: a byte that was cut becomes 0", log.log(k), 0);
        }
        log.cut(61);
        Expect.same("9: bytes", log.count(0), 61);
        Expect.same("9: log(61)", log.log(61), NONE);
    }

    /** "Byte k of THE LOG; NONE if there is none." */
    private static void logHasItsFirstAndLastByte() {
        Asked log = logOf(4096, 64);
        log.put(0, 255);
        log.put(4095, 0);
        int[][] due = {{-1, NONE}, {0, 255}, {4095, 0}, {4096, NONE}, {Integer.MIN_VALUE, NONE},
            {Integer.MAX_VALUE, NONE}};
        for (int[] row : due) {
            Expect.same("16: log(" + row[0] + ")", log.log(row[0]), row[1]);
        }
        Expect.same("16: an empty log", new Asked().log(0), NONE);
        Asked one = new Asked();
        Expect.append(one, 0);
        Expect.same("16: the last of 7", one.log(6), 1);
        Expect.same("16: behind the last", one.log(7), NONE);
    }

    /** "An object is used for at most 512 calls after it has been made" */
    private static void the512thCallAnswers() {
        Asked log = new Asked();
        for (int k = 0; k < 400; k++) {
            log.append();
        }
        for (int k = 0; k < 110; k++) {
            log.read();
        }
        Expect.same("13: the 511th call", log.first(), 109 / 9 * 64 + 109 % 9 * 7);
        Expect.same("11: the 512th call", log.read(), 0);
        Expect.same("calls", log.calls(), Asked.MOST_CALLS);
    }
}
