/**
 * The edges that promises 10 to 15 and READING and BEGINNING name, a sentence a test; what is refused is in
 * RefusedTest.
 */
final class ReaderEdgeTest {
    private static final int NONE = FragmentLog.NONE;

    public static void main(String[] args) {
        lessThanSevenBytesArePassedOver();
        sevenBytesAreRead();
        theEndInABlockThatIsNotWhole();
        theEndInABlockThatIsNotWholeForALackOfBytes();
        theEndInABlockThatIsWhole();
        theEndInTheNextBlock();
        theEndOfTheLongestLog();
        theLengthGoesBeyondTheBlock();
        theLengthGoesBeyondTheLastBlock();
        theLengthGoesBeyondAndTheBytesCome();
        theLengthIsLookedAtFirst();
        kind0AndLength0();
        kind0AndLength0AsItIsNow();
        kind0OrLength0Alone();
        theCheckIsWrong();
        theCheckIsWrongInTheLastBlock();
        aFragmentBeforeThePlaceBegunAt();
        damageBeforeThePlaceBegunAt();
        theEndDropsWhatItHad();
        theEndAgainAndAgain();
        brokenBehindAFirst();
        brokenWithoutAFirst();
        lostAboveZeroAlone();
        lostAndTheKinds();
        lostWhenBrokenAndAtTheEnd();
        allBehindSomeBytes();
        firstBehindSomeBytes();
        middleOrLastWithoutAFirst();
        fragmentsWithoutBytes();
        anotherKind();
        beginAtEveryPlace();
        beginInALastBlockThatIsShorter();
        beginForgetsWhatWasTold();
        readTheShortestAndTheLongest();
        readALongerRecordMadeByHand();
        octetHasItsFirstAndLastByte();
        firstIsWhereTheRecordBegins();
        firstAndOctetStayWithTheLastRead();
        countAtItsGreatest();
        theHundredthAndTheNext();
        Expect.end("ReaderEdgeTest");
    }

    private static void flip(Asked log, int place) {
        log.put(place, log.log(place) ^ 1);
    }

    /** Reads up to the END, from where the READER is. */
    private static void reads(String call, Asked log, String due, String told, int place) {
        StringBuilder got = new StringBuilder();
        int many = log.read();
        while (many != NONE) {
            got.append(many).append(' ');
            many = log.read();
        }
        Expect.same("11: " + call + ": reads", got.toString().trim(), due);
        Expect.same("15: " + call + ": told", Expect.toldBy(log), told);
        Expect.same("14: " + call + ": place", log.count(1), place);
    }

    private static Asked kinds(int size, int[]... fragments) {
        Asked log = new Asked();
        log.clear(size);
        for (int[] fragment : fragments) {
            Expect.raw(log, fragment[0], fragment[1]);
        }
        return log;
    }

    private static int[] of(int kind, int many) {
        return new int[] {kind, many};
    }

    /** "With less than 7 bytes left in the BLOCK it goes to the next one" */
    private static void lessThanSevenBytesArePassedOver() {
        for (int size : new int[] {16, 17, 64, 512}) {
            for (int left = 0; left <= 6; left++) {
                for (int value : new int[] {0, 1, 255}) {
                    Asked log = new Asked();
                    int before = Expect.leave(log, size, left);
                    Expect.append(log, 3);
                    for (int k = size - left; k < size; k++) {
                        log.put(k, value);
                    }
                    for (int k = 0; k < before; k++) {
                        log.read();
                    }
                    String call = left + " of " + size + " left, of " + value;
                    Expect.same("14: before it, " + call, log.count(1), size - left);
                    Expect.same("11: " + call, log.read(), 3);
                    Expect.same("13: " + call, log.first(), size);
                    reads(call, log, "", "", size + 10);
                }
            }
        }
    }

    /** ... and with 7 it does not. */
    private static void sevenBytesAreRead() {
        for (int size : new int[] {16, 17, 64, 512}) {
            Asked log = new Asked();
            int before = Expect.leave(log, size, 7);
            Expect.append(log, 0);
            Expect.append(log, 4);
            for (int k = 0; k < before; k++) {
                log.read();
            }
            Expect.same("11: 7 of " + size + " left", log.read(), 0);
            Expect.same("13: 7 of " + size + " left", log.first(), size - 7);
            Expect.same("14: 7 of " + size + " left", log.count(1), size);
            reads("behind the 7", log, "4", "", size + 11);
        }
    }

    /** "if that is the last BLOCK, and not a whole one ..., it is at the END" */
    private static void theEndInABlockThatIsNotWhole() {
        for (int bytes = 61; bytes <= 63; bytes++) {
            Asked log = new Asked();
            Expect.append(log, 54);
            Expect.append(log, 2);
            log.cut(bytes);
            reads(bytes + " of 64", log, "54", "", 61);
            Expect.append(log, 6);
            reads(bytes + " of 64, then whole", log, "6", "", 77);
        }
    }

    /** The same where the BLOCK has room, and not the bytes of a head. */
    private static void theEndInABlockThatIsNotWholeForALackOfBytes() {
        for (int bytes = 0; bytes <= 7; bytes++) {
            Asked log = new Asked();
            Expect.append(log, 4);
            Expect.append(log, 0);
            log.cut(11 + bytes);
            reads(bytes + " bytes of a head", log, bytes < 7 ? "4" : "4 0", "", bytes < 7 ? 11 : 18);
        }
        Asked log = new Asked();
        Expect.same("11: no bytes at all", log.read(), NONE);
        Expect.same("14: no bytes at all", log.count(1), 0);
    }

    /** "(A BLOCK that is whole is not the last one, for this.)" and "or there is none" */
    private static void theEndInABlockThatIsWhole() {
        for (int left = 0; left <= 6; left++) {
            Asked log = new Asked();
            Expect.append(log, 57 - left);
            Expect.append(log, 2);
            log.cut(64);
            log.read();
            Expect.same("14: " + left + " left, behind the record", log.count(1), 64 - left);
            reads(left + " left of a whole block", log, "", "", 64);
            Expect.append(log, 9);
            reads(left + " left, more bytes came", log, "9", "", 80);
        }
    }

    /** It goes to the next BLOCK, which is the last, and not a whole one, and has less than 7 bytes. */
    private static void theEndInTheNextBlock() {
        for (int bytes = 0; bytes <= 7; bytes++) {
            Asked log = new Asked();
            Expect.append(log, 53);
            Expect.append(log, 0);
            log.cut(64 + bytes);
            reads(bytes + " bytes in the next block", log, bytes < 7 ? "53" : "53 0", "", bytes < 7 ? 64 : 71);
        }
    }

    private static void theEndOfTheLongestLog() {
        Asked log = new Asked();
        Expect.fill(log, 57, 0);
        for (int k = 0; k < 64; k++) {
            log.append();
        }
        Expect.same("6: full", log.append(), FragmentLog.FULL);
        for (int k = 0; k < 64; k++) {
            Expect.same("13: record " + k, log.read() + log.first(), 57 + 64 * k);
        }
        reads("4096 bytes, the last block whole", log, "", "", 4096);
        reads("4096 bytes, again", log, "", "", 4096);
        log = new Asked();
        log.clear(100);
        Expect.fill(log, 93, 0);
        for (int k = 0; k < 40; k++) {
            log.append();
        }
        Expect.append(log, 86);
        log.begin(4000);
        reads("4093 bytes, the last block not whole", log, "86", "", 4093);
        log.cut(4000);
        Expect.append(log, 89);
        log.begin(4000);
        reads("4096 bytes, the last block not whole", log, "89", "", 4096);
    }

    /** A record of 13 bytes up to the end of a block of 64, and one of 3 behind it. */
    private static Asked upToTheEnd() {
        Asked log = new Asked();
        Expect.leave(log, 64, 20);
        Expect.append(log, 13);
        Expect.append(log, 3);
        return log;
    }

    /** "If the length goes beyond the BLOCK: ... all that is left of the BLOCK is passed over, BEYOND is told" */
    private static void theLengthGoesBeyondTheBlock() {
        reads("up to the end", upToTheEnd(), "37 13 3", "", 74);
        int[][] lengths = {{14, 0}, {255, 0}, {0, 1}, {13, 1}, {255, 255}};
        for (int[] length : lengths) {
            Asked log = upToTheEnd();
            log.put(48, length[0]);
            log.put(49, length[1]);
            reads("length " + length[0] + ", " + length[1], log, "37 3", "1/20", 74);
        }
        for (int size : new int[] {16, 512}) {
            Asked log = new Asked();
            int before = Expect.leave(log, size, 7);
            Expect.append(log, 0);
            Expect.append(log, 2);
            log.put(size - 3, 1);
            for (int k = 0; k < before; k++) {
                log.read();
            }
            reads("one byte with 7 of " + size + " left", log, "2", "1/7", size + 9);
            log.put(5, 255);
            log.begin(0);
            reads("all of a block of " + size, log, "2", "1/" + size, size + 9);
        }
    }

    /** "in the last one, if that is not whole, it is at the END (the PLACE stays)" */
    private static void theLengthGoesBeyondTheLastBlock() {
        for (int bytes = 51; bytes <= 64; bytes++) {
            Asked log = upToTheEnd();
            log.cut(bytes);
            reads("cut at " + bytes, log, bytes < 64 ? "37" : "37 13", "", bytes < 64 ? 44 : 64);
        }
        for (int length : new int[] {14, 255}) {
            Asked log = upToTheEnd();
            log.put(48, length);
            log.cut(63);
            reads(length + " in 63 of 64", log, "37", "", 44);
            reads(length + " in 63 of 64, again", log, "", "", 44);
            log.cut(63);
            log.read();
            log.read();
            Expect.append(log, 5);
            reads(length + ", and the block became whole", log, "5", "1/20", 76);
        }
        Asked log = upToTheEnd();
        log.put(48, 14);
        log.cut(64);
        reads("14 in 64 of 64", log, "37", "1/20", 64);
    }

    /** "(more bytes may come: it goes on in its BLOCK with what was not read then)" */
    private static void theLengthGoesBeyondAndTheBytesCome() {
        for (int bytes = 44; bytes <= 63; bytes++) {
            Asked whole = upToTheEnd();
            Asked log = upToTheEnd();
            log.cut(bytes);
            log.read();
            Expect.same("11: cut at " + bytes, log.read(), NONE);
            Expect.raw(log, 1, 30);
            for (int k = bytes; k < 64; k++) {
                log.put(k, whole.log(k));
            }
            Expect.same("11: cut at " + bytes + ", then they came", log.read(), 13);
            Expect.same("13: cut at " + bytes + ", then they came", log.first(), 44);
            Expect.same("15: nothing was told", log.count(3), 0);
        }
    }

    /** A length that goes beyond counts before KIND 0 and before the CHECK. */
    private static void theLengthIsLookedAtFirst() {
        Asked log = upToTheEnd();
        log.put(48, 14);
        log.put(50, 0);
        reads("KIND 0", log, "37 3", "1/20", 74);
        log.cut(63);
        reads("KIND 0 in 63 of 64", log, "37", "", 44);
        log = upToTheEnd();
        log.put(44, log.log(44) ^ 1);
        log.cut(63);
        reads("a wrong CHECK in 63 of 64", log, "37", "", 44);
    }

    /** "KIND 0 and length 0: all that is left of the BLOCK ... is passed over, BROKEN, nothing is told." */
    private static void kind0AndLength0() {
        for (int wrong = 0; wrong <= 1; wrong++) {
            Asked log = kinds(64, of(1, 9), of(0, 0), of(1, 3), of(9, 24), of(1, 5));
            log.put(16, log.log(16) ^ wrong);
            reads("a CHECK wrong by " + wrong, log, "9 5", "", 76);
        }
        Asked log = upToTheEnd();
        for (int k = 44; k < 64; k++) {
            log.put(k, 0);
        }
        reads("20 times 0", log, "37 3", "", 74);
        log = new Asked();
        Expect.leave(log, 64, 7);
        Expect.raw(log, 0, 0);
        Expect.append(log, 1);
        reads("with just 7 left", log, "50 1", "", 72);
        log = kinds(16, of(0, 0), of(0, 2), of(1, 4));
        reads("all of a block", log, "4", "", 27);
    }

    /** "all that is left of the BLOCK (as it is now)" */
    private static void kind0AndLength0AsItIsNow() {
        Asked log = kinds(64, of(1, 2), of(0, 0));
        reads("7 bytes of the last block", log, "2", "", 16);
        Expect.raw(log, 1, 6);
        reads("what comes then", log, "6", "", 29);
        log.begin(0);
        reads("from the beginning", log, "2", "", 29);
        Expect.raw(log, 1, 0);
        reads("and what comes then", log, "0", "", 36);
    }

    /** ... and one of the two alone is not that. */
    private static void kind0OrLength0Alone() {
        reads("KIND 0, a byte", kinds(64, of(0, 1), of(1, 2)), "2", "6/1", 17);
        reads("KIND 0, 256 bytes", kinds(512, of(0, 256), of(1, 2)), "2", "6/256", 272);
        reads("KIND 1, no bytes", kinds(64, of(1, 0), of(1, 2)), "0 2", "", 16);
        reads("KIND 255, no bytes", kinds(64, of(255, 0), of(1, 2)), "2", "6/0", 16);
        Asked log = kinds(64, of(0, 1), of(1, 2));
        flip(log, 0);
        reads("KIND 0, a byte, a wrong CHECK", log, "", "2/17", 17);
        log = kinds(64, of(1, 0), of(1, 2));
        flip(log, 0);
        reads("KIND 1, no bytes, a wrong CHECK", log, "", "2/16", 16);
    }

    /** "A CHECK that is wrong: all that is left of the BLOCK is passed over, CHECKED is told (with as many bytes)" */
    private static void theCheckIsWrong() {
        for (int place : new int[] {44, 45, 46, 47, 50, 51, 63}) {
            for (int bit = 1; bit <= 128; bit *= 2) {
                Asked log = upToTheEnd();
                log.put(place, log.log(place) ^ bit);
                reads("byte " + place + " by " + bit, log, "37 3", "2/20", 74);
            }
        }
        Asked shorter = upToTheEnd();
        shorter.put(48, 12);
        reads("a shorter length", shorter, "37 3", "2/20", 74);
        for (int size : new int[] {16, 512}) {
            Asked log = new Asked();
            int before = Expect.leave(log, size, 7);
            Expect.append(log, 0);
            Expect.append(log, 2);
            flip(log, size - 7);
            for (int k = 0; k < before; k++) {
                log.read();
            }
            reads("7 of " + size + " left", log, "2", "2/7", size + 9);
            flip(log, 0);
            log.begin(0);
            reads("all of a block of " + size, log, "2", "2/" + size, size + 9);
        }
    }

    /** ... also in the last BLOCK, where as many are left as there are. */
    private static void theCheckIsWrongInTheLastBlock() {
        Asked log = new Asked();
        Expect.append(log, 0);
        flip(log, 3);
        reads("7 bytes", log, "", "2/7", 7);
        Expect.append(log, 3);
        reads("what comes then", log, "3", "2/7", 17);
        log.begin(0);
        reads("all that there is now", log, "", "2/17", 17);
        Expect.append(log, 40);
        log.begin(0);
        reads("all of the block", log, "", "2/64", 64);
    }

    /** "BROKEN, if it begins before the place that was begun at; nothing is told then." */
    private static void aFragmentBeforeThePlaceBegunAt() {
        int[][] due = {{0, 10}, {1, 20}, {16, 20}, {17, 20}, {18, 5}, {43, 5}, {44, 5}, {45, NONE}, {56, NONE}};
        for (int[] row : due) {
            Asked log = new Asked();
            Expect.append(log, 10);
            Expect.append(log, 20);
            Expect.append(log, 5);
            log.begin(row[0]);
            Expect.same("11: begun at " + row[0], log.read(), row[1]);
            Expect.same("14: begun at " + row[0] + ", told", log.count(3), 0);
        }
        Asked log = new Asked();
        Expect.append(log, 10);
        log.begin(30);
        reads("begun behind the log", log, "", "", 17);
        Expect.append(log, 6);
        reads("17 is before 30", log, "", "", 30);
        Expect.append(log, 7);
        reads("30 is not", log, "7", "", 44);
        log = kinds(64, of(2, 3), of(3, 4), of(4, 5), of(9, 2), of(1, 6));
        log.begin(42);
        reads("of every kind", log, "6", "", 55);
        log.begin(41);
        reads("another KIND is not before", log, "6", "", 55);
    }

    /** The CHECK and the length of what lies before are looked at, and told, as elsewhere. */
    private static void damageBeforeThePlaceBegunAt() {
        Asked log = upToTheEnd();
        flip(log, 0);
        log.begin(50);
        reads("a wrong CHECK before 50", log, "3", "2/64", 74);
        log = upToTheEnd();
        log.put(5, 1);
        log.begin(50);
        reads("a length beyond before 50", log, "3", "1/64", 74);
        log = kinds(64, of(0, 0), of(1, 50), of(1, 3));
        log.begin(7);
        reads("KIND 0 and length 0 before 7", log, "3", "", 74);
    }

    /** "At the END what it had of a RECORD is dropped, nothing is told, and there is no RECORD more" */
    private static void theEndDropsWhatItHad() {
        for (int many : new int[] {0, 1, 30}) {
            Asked log = kinds(64, of(1, 2), of(2, many));
            reads("FIRST of " + many, log, "2", "", 16 + many);
            Expect.same("13: FIRST of " + many, log.first(), NONE);
            Expect.same("12: FIRST of " + many, log.octet(0), NONE);
            Expect.raw(log, 4, 3);
            reads("LAST behind the END", log, "", "5/3", 26 + many);
        }
        Asked log = kinds(64, of(2, 2), of(3, 2));
        reads("FIRST and MIDDLE", log, "", "", 18);
        Expect.raw(log, 1, 1);
        reads("ALL behind the END", log, "1", "", 26);
        log = kinds(64, of(2, 2));
        log.read();
        Expect.raw(log, 9, 1);
        reads("another KIND behind the END", log, "", "6/1", 17);
        log = kinds(64, of(2, 2));
        log.read();
        Expect.raw(log, 1, 1);
        flip(log, 9);
        reads("damage behind the END", log, "", "2/8", 17);
    }

    /** "more bytes may come" */
    private static void theEndAgainAndAgain() {
        Asked log = new Asked();
        for (int k = 0; k < 12; k++) {
            Expect.same("11: the END " + k, log.read(), NONE);
            int place = log.count(0);
            Expect.append(log, k);
            Expect.same("11: more came " + k, log.read(), k);
            Expect.same("13: more came " + k, log.first(), place % 64 > 57 ? place / 64 * 64 + 64 : place);
        }
        Expect.same("14: nothing was told", log.count(3), 0);
    }

    /** "BROKEN: if it had the FIRST of a RECORD, TORN is told (with as many bytes as it had), and they are dropped." */
    private static void brokenBehindAFirst() {
        for (int many : new int[] {0, 1, 20}) {
            Asked log = kinds(64, of(2, many), of(1, 4), of(4, 39 - many), of(4, 6), of(1, 1));
            flip(log, 7 + many);
            reads("CHECKED behind FIRST of " + many, log, "1", "2/" + (57 - many) + " 3/" + many + " 5/6", 85);
            flip(log, 7 + many);
            log.put(12 + many, 1);
            log.begin(0);
            reads("BEYOND behind FIRST of " + many, log, "1", "1/" + (57 - many) + " 3/" + many + " 5/6", 85);
            log.put(12 + many, 0);
            log.put(11 + many, 0);
            log.put(13 + many, 0);
            log.begin(0);
            reads("KIND 0 behind FIRST of " + many, log, "1", "3/" + many + " 5/6", 85);
        }
        Asked log = kinds(64, of(2, 3), of(3, 0), of(3, 5), of(1, 1));
        flip(log, 29);
        reads("FIRST and two MIDDLE", log, "", "2/8 3/8", 37);
        Expect.raw(log, 1, 20);
        Expect.raw(log, 1, 2);
        flip(log, 37);
        reads("TORN is told once", log, "2", "2/8 3/8 2/27", 73);
    }

    /** ... and if it had not, nothing more is told. */
    private static void brokenWithoutAFirst() {
        Asked log = kinds(64, of(1, 8), of(1, 42), of(1, 3));
        flip(log, 15);
        reads("behind ALL", log, "8 3", "2/49", 74);
        log = kinds(64, of(2, 8), of(4, 8), of(1, 27), of(1, 3));
        flip(log, 30);
        reads("behind LAST", log, "16 3", "2/34", 74);
        log = kinds(64, of(3, 8), of(1, 42), of(1, 3));
        flip(log, 15);
        reads("behind MIDDLE without a FIRST", log, "3", "5/8 2/49", 74);
        log = kinds(64, of(2, 8), of(9, 8), of(1, 27), of(1, 3));
        flip(log, 30);
        reads("behind another KIND", log, "3", "6/16 2/34", 74);
    }

    /** "LOST (as it is when it begins at a place above 0)" */
    private static void lostAboveZeroAlone() {
        Asked log = new Asked();
        int[][] due = {{0, 0}, {1, 1}, {0, 0}, {64, 1}, {4096, 1}, {0, 0}};
        for (int[] row : due) {
            log.begin(row[0]);
            Expect.same("14: lost from " + row[0], log.count(2), row[1]);
        }
    }

    /**
     * "MIDDLE is passed over, LAST also, and it is no longer LOST then; with ALL, FIRST, or another KIND it is no
     * longer LOST."
     */
    private static void lostAndTheKinds() {
        int[][] due = {{3, 1}, {4, 0}, {1, 0}, {2, 0}, {0, 0}, {5, 0}, {255, 0}};
        for (int[] row : due) {
            for (int many : new int[] {1, 5}) {
                Asked log = kinds(64, of(1, 57), of(row[0], many));
                log.begin(64);
                boolean told = row[0] == 0 || row[0] > 4;
                reads("KIND " + row[0], log, row[0] == 1 ? "" + many : "", told ? "6/" + many : "", 71 + many);
                Expect.same("14: lost behind KIND " + row[0], log.count(2), row[1]);
            }
        }
        Asked log = kinds(64, of(1, 57), of(3, 1), of(3, 0), of(4, 0), of(3, 2), of(4, 3));
        log.begin(64);
        reads("two MIDDLE, LAST, and once more", log, "", "5/2 5/3", 105);
        log = kinds(64, of(1, 57), of(4, 1), of(4, 2));
        log.begin(64);
        reads("two LAST", log, "", "5/2", 81);
        log = kinds(64, of(1, 57), of(3, 1), of(2, 2), of(3, 3), of(4, 4));
        log.begin(64);
        reads("MIDDLE, then a whole one", log, "9", "", 102);
        log = kinds(64, of(1, 57), of(9, 1), of(4, 2));
        log.begin(64);
        reads("another KIND, then LAST", log, "", "6/1 5/2", 81);
        log = kinds(64, of(3, 1), of(4, 2), of(1, 0));
        reads("not LOST from 0", log, "0", "5/1 5/2", 24);
    }

    /** BROKEN and the END are no KIND. */
    private static void lostWhenBrokenAndAtTheEnd() {
        Asked log = kinds(64, of(1, 57), of(3, 57), of(3, 57), of(4, 2), of(1, 3));
        flip(log, 128);
        log.begin(64);
        reads("CHECKED while LOST", log, "3", "2/64", 211);
        log.put(133, 255);
        log.begin(64);
        reads("BEYOND while LOST", log, "3", "1/64", 211);
        log.put(132, 0);
        log.put(133, 0);
        log.put(134, 0);
        log.begin(64);
        reads("KIND 0 while LOST", log, "3", "", 211);
        log.cut(128);
        log.begin(64);
        reads("the END while LOST", log, "", "", 128);
        Expect.same("14: still lost", log.count(2), 1);
        Expect.raw(log, 4, 1);
        reads("LAST came", log, "", "", 136);
        Expect.same("14: no longer lost", log.count(2), 0);
    }

    /** "ALL: if it had some bytes of another RECORD, UNENDED is told (with as many); it is the RECORD." */
    private static void allBehindSomeBytes() {
        reads("no bytes", kinds(64, of(2, 0), of(1, 3)), "3", "", 17);
        reads("no bytes twice", kinds(64, of(2, 0), of(3, 0), of(1, 3)), "3", "", 24);
        reads("one byte", kinds(64, of(2, 1), of(1, 3)), "3", "4/1", 18);
        reads("one byte of MIDDLE", kinds(64, of(2, 0), of(3, 1), of(1, 0)), "0", "4/1", 22);
        Asked log = kinds(64, of(2, 4), of(3, 5), of(1, 3));
        Expect.same("11: ALL", log.read(), 3);
        Expect.same("12: its own bytes alone", log.octet(0), 1);
        Expect.same("13: its own place", log.first(), 23);
        reads("and no more", log, "", "4/9", 33);
    }

    /** "FIRST: likewise; it has these bytes then." */
    private static void firstBehindSomeBytes() {
        reads("no bytes", kinds(64, of(2, 0), of(2, 3), of(4, 1)), "4", "", 25);
        reads("one byte", kinds(64, of(2, 1), of(2, 3), of(4, 1)), "4", "4/1", 26);
        Asked log = kinds(64, of(2, 4), of(2, 0), of(2, 2), of(4, 3));
        Expect.same("11: the last FIRST", log.read(), 5);
        Expect.same("12: its own bytes alone", log.octet(0) * 10 + log.octet(2), 24);
        Expect.same("13: its own place", log.first(), 18);
        reads("told once, of what had bytes", log, "", "4/4", 37);
    }

    /** "MIDDLE, LAST without a FIRST: UNBEGUN is told (with its bytes)" */
    private static void middleOrLastWithoutAFirst() {
        reads("at the beginning", kinds(64, of(3, 0), of(4, 0), of(3, 1), of(4, 1)), "", "5/0 5/0 5/1 5/1", 30);
        reads("behind ALL", kinds(64, of(1, 2), of(3, 1), of(4, 3)), "2", "5/1 5/3", 27);
        reads("behind LAST", kinds(64, of(2, 2), of(4, 1), of(4, 3)), "3", "5/3", 27);
        reads("behind another KIND", kinds(64, of(2, 2), of(7, 1), of(4, 3)), "", "6/3 5/3", 27);
    }

    /** "else they are put behind, and with LAST it is the RECORD" */
    private static void fragmentsWithoutBytes() {
        Asked log = kinds(64, of(2, 0), of(3, 0), of(4, 0));
        Expect.same("11: a RECORD of three without bytes", log.read(), 0);
        Expect.same("13: its place", log.first(), 0);
        Expect.same("12: no byte", log.octet(0), NONE);
        reads("and no more", log, "", "", 21);
        reads("two without bytes", kinds(64, of(2, 0), of(4, 0)), "0", "", 14);
        reads("a byte in LAST", kinds(64, of(2, 0), of(4, 1)), "1", "", 15);
        reads("a byte in MIDDLE", kinds(64, of(2, 0), of(3, 1), of(4, 0)), "1", "", 22);
        reads("a byte in FIRST", kinds(64, of(2, 1), of(3, 0), of(4, 0)), "1", "", 22);
        log = new Asked();
        Expect.leave(log, 64, 7);
        Expect.append(log, 2);
        log.read();
        Expect.same("11: FIRST without bytes before a block", log.read(), 2);
        Expect.same("13: FIRST without bytes before a block", log.first(), 57);
    }

    /** "Another KIND: UNKNOWN is told (with its bytes and those that it had), which are dropped." */
    private static void anotherKind() {
        for (int kind = 5; kind <= 255; kind++) {
            reads("KIND " + kind, kinds(64, of(kind, 1), of(1, 2)), "2", "6/1", 17);
        }
        reads("neither has bytes", kinds(64, of(2, 0), of(5, 0), of(4, 1)), "", "6/0 5/1", 22);
        reads("one had some", kinds(64, of(2, 3), of(5, 0), of(4, 1)), "", "6/3 5/1", 25);
        reads("both have some", kinds(64, of(2, 3), of(3, 2), of(0, 4), of(4, 1)), "", "6/9 5/1", 38);
        reads("FIRST behind it", kinds(64, of(2, 3), of(5, 4), of(2, 1), of(4, 1)), "2", "6/7", 37);
    }

    /** "its PLACE is the beginning of its BLOCK, or of the next one, if less than 7 bytes of its own are from it on" */
    private static void beginAtEveryPlace() {
        for (int size : new int[] {16, 17, 64, 100, 511, 512}) {
            Asked log = new Asked();
            for (int place = 0; place <= 4096; place++) {
                if (place % 250 == 0) {
                    log = new Asked();
                    log.clear(size);
                }
                int start = place / size * size;
                int due = place - start > size - 7 ? start + size : start;
                Expect.same("10: begin(" + place + ") in blocks of " + size, log.begin(place), due);
                Expect.same("14: place", log.count(1), due);
            }
        }
    }

    /** A BLOCK's own bytes are SIZE, also where they are still to come. */
    private static void beginInALastBlockThatIsShorter() {
        Asked log = new Asked();
        Expect.append(log, 3);
        Expect.same("10: with 1 byte of the log left", log.begin(9), 0);
        Expect.append(log, 4);
        Expect.same("11: what came", log.read(), 4);
        Expect.same("10: with none left", log.begin(21), 0);
        Expect.same("10: behind the log", log.begin(57), 0);
        Expect.same("10: behind the log, 6 own bytes", log.begin(58), 64);
        Expect.same("11: nothing there", log.read(), NONE);
        Expect.same("14: the place stays", log.count(1), 64);
    }

    /** "What was told before is forgotten." */
    private static void beginForgetsWhatWasTold() {
        for (int place : new int[] {0, 1, 4096}) {
            Asked log = kinds(64, of(3, 4), of(9, 5));
            reads("told before", log, "", "5/4 6/5", 23);
            log.begin(place);
            Expect.same("10: how often", log.count(3), 0);
            Expect.same("10: bytes", log.count(4), 0);
            Expect.same("10: told(0, 0)", log.told(0, 0), NONE);
            Expect.same("10: told(0, 1)", log.told(0, 1), NONE);
        }
        Asked log = kinds(64, of(3, 4), of(9, 5));
        log.read();
        log.begin(0);
        reads("told again", log, "", "5/4 6/5", 23);
    }

    /** "how many bytes it has; NONE if there is none" */
    private static void readTheShortestAndTheLongest() {
        for (int size : new int[] {16, 23, 24, 64, 406, 407, 512}) {
            for (int many : new int[] {0, 1, 399, 400}) {
                Asked log = new Asked();
                log.clear(size);
                int bytes = Expect.append(log, many);
                String call = many + " bytes in blocks of " + size;
                Expect.same("11: " + call, log.read(), many);
                Expect.same("12: " + call + ", the first", log.octet(0), many == 0 ? NONE : many & 255);
                Expect.same("12: " + call + ", the last", log.octet(many - 1), many == 0 ? NONE : 2 * many - 1 & 255);
                Expect.same("12: " + call + ", one more", log.octet(many), NONE);
                Expect.same("13: " + call, log.first(), 0);
                reads(call + ", and none more", log, "", "", bytes);
            }
        }
    }

    private static Asked eightBlocks(int lastKind) {
        Asked log = new Asked();
        log.clear(512);
        Expect.fill(log, 249, 1);
        for (int k = 0; k < 16; k++) {
            log.raw(k == 0 ? 2 : k == 15 ? lastKind : 3);
        }
        return log;
    }

    /** FRAGMENTS put behind THE LOG by hand may hold more than 400 bytes of a RECORD. */
    private static void readALongerRecordMadeByHand() {
        Asked log = eightBlocks(4);
        Expect.same("7: the log", log.count(0), 4096);
        Expect.same("11: as many as there are", log.read(), 16 * 249);
        Expect.same("12: the last", log.octet(16 * 249 - 1), 249);
        Expect.same("12: none behind", log.octet(16 * 249), NONE);
        reads("and none more", log, "", "", 4096);
        reads("another KIND", eightBlocks(77), "", "6/3984", 4096);
        reads("UNENDED", eightBlocks(1), "249", "4/3735", 4096);
        log = eightBlocks(4);
        flip(log, 4095);
        reads("TORN", log, "", "2/256 3/3735", 4096);
    }

    /** "Byte k of the RECORD that was read last; NONE if there is none" */
    private static void octetHasItsFirstAndLastByte() {
        Asked log = new Asked();
        Expect.same("12: before a read", log.octet(0), NONE);
        Expect.append(log, 400);
        Expect.append(log, 1);
        log.read();
        int[][] due = {{-1, NONE}, {0, 400 & 255}, {56, 456 & 255}, {57, 457 & 255}, {399, 799 & 255}, {400, NONE},
            {Integer.MIN_VALUE, NONE}, {Integer.MAX_VALUE, NONE}};
        for (int[] row : due) {
            Expect.same("12: octet(" + row[0] + ")", log.octet(row[0]), row[1]);
        }
        log.read();
        Expect.same("12: a shorter one", log.octet(0), 1);
        Expect.same("12: nothing of the longer one", log.octet(1), NONE);
        log.read();
        Expect.same("12: the last read found none", log.octet(0), NONE);
    }

    /** "Where the RECORD that was read last begins (its first FRAGMENT's CHECK); NONE if the last read found none." */
    private static void firstIsWhereTheRecordBegins() {
        Asked log = new Asked();
        Expect.same("13: before a read", log.first(), NONE);
        log.read();
        Expect.same("13: none found", log.first(), NONE);
        Expect.append(log, 51);
        Expect.append(log, 1);
        Expect.append(log, 42);
        Expect.append(log, 70);
        int[] due = {0, 64, 72, 121};
        for (int place : due) {
            log.read();
            Expect.same("13: first()", log.first(), place);
        }
        log.read();
        Expect.same("13: none more", log.first(), NONE);
    }

    /** What is no read does not change which RECORD was read last. */
    private static void firstAndOctetStayWithTheLastRead() {
        Asked log = new Asked();
        Expect.append(log, 2);
        Expect.append(log, 3);
        log.read();
        log.read();
        log.put(16, 99);
        Expect.append(log, 9);
        Expect.raw(log, 3, 1);
        log.begin(40);
        Expect.same("12: behind put, append, raw, begin", log.octet(0) * 10 + log.octet(2), 35);
        Expect.same("13: behind put, append, raw, begin", log.first(), 9);
        log.cut(0);
        Expect.same("12: behind cut", log.octet(2), 5);
        log.clear(16);
        Expect.same("12: behind clear", log.octet(2), 5);
        Expect.same("13: behind clear", log.first(), 9);
        Expect.same("12: none behind it", log.octet(3), NONE);
        log.read();
        Expect.same("12: behind a read that found none", log.octet(0), NONE);
        Expect.same("13: behind a read that found none", log.first(), NONE);
    }

    /** "What = 0 bytes of THE LOG, 1 the READER's PLACE, ..., 5 bytes of THE BUFFER" */
    private static void countAtItsGreatest() {
        Asked log = eightBlocks(4);
        flip(log, 0);
        log.read();
        Expect.fill(log, 400, 0);
        int[] due = {4096, 4096, 0, 15, 512 + 14 * 249, 400};
        for (int what = 0; what <= 5; what++) {
            Expect.same("14: count(" + what + ")", log.count(what), due[what]);
        }
    }

    /** "3 how often something was told since it began" and "(the first 100 are kept)" */
    private static void theHundredthAndTheNext() {
        for (int often : new int[] {99, 100, 101, 103}) {
            Asked log = new Asked();
            log.clear(512);
            int bytes = 0;
            for (int k = 0; k < often; k++) {
                Expect.raw(log, isUnknown(k) ? 9 : 3, bytesToTell(k));
                bytes += bytesToTell(k);
            }
            log.read();
            String call = "of " + often;
            Expect.same("14: how often, " + call, log.count(3), often);
            Expect.same("14: bytes, " + call, log.count(4), bytes);
            for (int k : new int[] {0, 1, 97, 98, 99, 100, 101, 102}) {
                boolean kept = k < often && k < 100;
                Expect.same("15: told(" + k + ", 0) " + call, log.told(k, 0), kept ? whichToTell(k) : NONE);
                Expect.same("15: told(" + k + ", 1) " + call, log.told(k, 1), kept ? bytesToTell(k) : NONE);
            }
            Expect.same("15: told(-1, 0) " + call, log.told(-1, 0), NONE);
            Expect.same("15: told(-1, 1) " + call, log.told(-1, 1), NONE);
            log.begin(4096);
            Expect.same("15: forgotten " + call, log.told(99, 0), NONE);
        }
    }

    /** By turns, and so that the hundredth and the next differ from the first ones. */
    private static boolean isUnknown(int k) {
        return (k % 2 == 1) != (k >= 74);
    }

    private static int whichToTell(int k) {
        return isUnknown(k) ? FragmentLog.UNKNOWN : FragmentLog.UNBEGUN;
    }

    /** 37 fragments of so many bytes, 5 and 9 by turns but for one, fill a block of 512. */
    private static int bytesToTell(int k) {
        if (k % 37 == 36) {
            return 1;
        }
        return isUnknown(k) ? 9 : 5;
    }
}
